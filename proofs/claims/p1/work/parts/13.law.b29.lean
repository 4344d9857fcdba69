set_option maxHeartbeats 4000000 in
set_option maxRecDepth 100000 in
theorem mt_X12_put_ (l : Launch) (dC : Nat → ClassId) (dI : Nat → Nat → Nat) (h0 h1 h2 h3 h4 h5 h6 h7 h8 h9 h10 h11 h12 h13 h14 h15 h16 h17 h18 h19 h20 h21 h22 h23 h24 h25 h26 h27 h28 h29 h30 h31 h32 h33 h34 h35 h36 h37 h38 h39 h40 h41 h42 h43 h44 h45 h46 h47 h48 h49 h50 h51 h52 h53 h54 h55 h56 h57 h58 h59 h60 h61 h62 h63 h64 h65 h66 h67 h68 h69 h70 h71 h72 h73 h74 h75 h76 h77 h78 h79 h80 h81 h82 h83 h84 h85 h86 h87 h88 h89 h90 h91 h92 h93 h94 : Nat) (k0 k1 k2 : ClassId) (p0 p1 : Int32) (w0 : Int64) (sz : Nat) : Met l yX12_put_ (WS yX12_put_ cX12_put_ 7 (some (.int))) ({ frames := 1, cells := 0, slots := 0, locals := 22 }) (va_Pc [.ref h0, .int p0, .int p1, .long w0] (fun U => U.heap.size = sz ∧ va_P (dC, dI) vwCl [(h0, .inr (15, [.int 0, .int 0, .ref h1, .int 0, .int (-1), .ref h2, .ref h3, .ref h4, .ref h5, .ref h6, .ref h7, .ref h8, .ref h9, .ref h10, .ref h11, .ref h12, .ref h13, .ref h14, .ref h15, .ref h16, .ref h17, .ref h18, .ref h19, .ref h20, .ref h21, .ref h22, .ref h23, .ref h24, .ref h25, .ref h26, .ref h27, .int 0, .ref h28, .ref h29, .int 0, .int 0, .int 0, .int 0, .int 0, .int 0, .ref h30, .int 0, .ref h31, .ref h32, .ref h33, .ref h34, .ref h35, .ref h36, .ref h37, .ref h38, .int 0, .int 0, .int 0, .int 0, .ref h39, .ref h40, .ref h41, .int 0, .ref h42, .int 0, .ref h43, .int 0, .int 0, .ref h44, .ref h45, .ref h46, .int 0, .ref h47, .ref h48, .ref h49, .ref h50, .ref h51, .ref h52, .ref h53, .int 0, .ref h54, .int 0, .ref h55, .ref h56, .ref h57, .int 0, .ref h58, .ref h59, .ref h60, .ref h61, .int 0, .ref h62, .ref h63, .ref h64, .ref h65, .int 0, .int 0, .int 0, .int 0, .int 0, .int 0, .int 0, .int 0, .int 0, .ref h66, .int 0, .ref h67, .int 0, .int 0, .int 0, .int 0, .int 0, .ref h68, .int 0, .int 0, .ref h69, .int 0, .ref h70, .int 0, .ref h71, .ref h72, .int 0, .ref h73, .ref h74, .ref h75, .ref h76, .long 0, .int 0, .ref h77, .ref h78, .ref h79, .ref h80, .ref h81, .ref h82, .ref h83, .ref h84, .ref h85, .ref h86, .ref h87, .ref h88, .ref h89, .ref h90, .ref h91, .int 0, .ref h92, .ref h93, .ref h94, .int 0])), (h48, .inl (k0, 4, .inl (fun _ => 0))), (h49, .inl (k1, 4, .inl (fun _ => 0))), (h50, .inl (k2, 400, .inl (fun _ => 0)))] U.heap ∧ va_K (dC, dI) vwCl [(k0, .boolean), (k1, .int), (k2, .int)] U ∧ va_D (fun _ => True) [(h0, .inr (15, [.int 0, .int 0, .ref h1, .int 0, .int (-1), .ref h2, .ref h3, .ref h4, .ref h5, .ref h6, .ref h7, .ref h8, .ref h9, .ref h10, .ref h11, .ref h12, .ref h13, .ref h14, .ref h15, .ref h16, .ref h17, .ref h18, .ref h19, .ref h20, .ref h21, .ref h22, .ref h23, .ref h24, .ref h25, .ref h26, .ref h27, .int 0, .ref h28, .ref h29, .int 0, .int 0, .int 0, .int 0, .int 0, .int 0, .ref h30, .int 0, .ref h31, .ref h32, .ref h33, .ref h34, .ref h35, .ref h36, .ref h37, .ref h38, .int 0, .int 0, .int 0, .int 0, .ref h39, .ref h40, .ref h41, .int 0, .ref h42, .int 0, .ref h43, .int 0, .int 0, .ref h44, .ref h45, .ref h46, .int 0, .ref h47, .ref h48, .ref h49, .ref h50, .ref h51, .ref h52, .ref h53, .int 0, .ref h54, .int 0, .ref h55, .ref h56, .ref h57, .int 0, .ref h58, .ref h59, .ref h60, .ref h61, .int 0, .ref h62, .ref h63, .ref h64, .ref h65, .int 0, .int 0, .int 0, .int 0, .int 0, .int 0, .int 0, .int 0, .int 0, .ref h66, .int 0, .ref h67, .int 0, .int 0, .int 0, .int 0, .int 0, .ref h68, .int 0, .int 0, .ref h69, .int 0, .ref h70, .int 0, .ref h71, .ref h72, .int 0, .ref h73, .ref h74, .ref h75, .ref h76, .long 0, .int 0, .ref h77, .ref h78, .ref h79, .ref h80, .ref h81, .ref h82, .ref h83, .ref h84, .ref h85, .ref h86, .ref h87, .ref h88, .ref h89, .ref h90, .ref h91, .int 0, .ref h92, .ref h93, .ref h94, .int 0])), (h48, .inl (k0, 4, .inl (fun _ => 0))), (h49, .inl (k1, 4, .inl (fun _ => 0))), (h50, .inl (k2, 400, .inl (fun _ => 0)))])) (va_Qi (fun (r : Int32) (u : Nat) => (u = 0 ∧ r = (-2) ∧ (p0 < 0)) ∨ (u = 1 ∧ r = (-2) ∧ (¬ p0 < 0) ∧ (3 < p0)) ∨ (u = 2 ∧ r = (-4) ∧ (¬ p0 < 0) ∧ (¬ 3 < p0) ∧ (p1 < 0)) ∨ (u = 3 ∧ r = (-4) ∧ (¬ p0 < 0) ∧ (¬ 3 < p0) ∧ (¬ p1 < 0) ∧ (4 < p1)) ∨ (u = 4 ∧ r = p1 ∧ (¬ p0 < 0) ∧ (¬ 3 < p0) ∧ (¬ p1 < 0) ∧ (¬ 4 < p1))) (fun (_ : Nat) (t : State) => (va_P (dC, dI) vwCl [] t.heap ∧ va_K (dC, dI) vwCl [] t ∧ va_D (va_A [(h0, .inr (15, [.int 0, .int 0, .ref h1, .int 0, .int (-1), .ref h2, .ref h3, .ref h4, .ref h5, .ref h6, .ref h7, .ref h8, .ref h9, .ref h10, .ref h11, .ref h12, .ref h13, .ref h14, .ref h15, .ref h16, .ref h17, .ref h18, .ref h19, .ref h20, .ref h21, .ref h22, .ref h23, .ref h24, .ref h25, .ref h26, .ref h27, .int 0, .ref h28, .ref h29, .int 0, .int 0, .int 0, .int 0, .int 0, .int 0, .ref h30, .int 0, .ref h31, .ref h32, .ref h33, .ref h34, .ref h35, .ref h36, .ref h37, .ref h38, .int 0, .int 0, .int 0, .int 0, .ref h39, .ref h40, .ref h41, .int 0, .ref h42, .int 0, .ref h43, .int 0, .int 0, .ref h44, .ref h45, .ref h46, .int 0, .ref h47, .ref h48, .ref h49, .ref h50, .ref h51, .ref h52, .ref h53, .int 0, .ref h54, .int 0, .ref h55, .ref h56, .ref h57, .int 0, .ref h58, .ref h59, .ref h60, .ref h61, .int 0, .ref h62, .ref h63, .ref h64, .ref h65, .int 0, .int 0, .int 0, .int 0, .int 0, .int 0, .int 0, .int 0, .int 0, .ref h66, .int 0, .ref h67, .int 0, .int 0, .int 0, .int 0, .int 0, .ref h68, .int 0, .int 0, .ref h69, .int 0, .ref h70, .int 0, .ref h71, .ref h72, .int 0, .ref h73, .ref h74, .ref h75, .ref h76, .long 0, .int 0, .ref h77, .ref h78, .ref h79, .ref h80, .ref h81, .ref h82, .ref h83, .ref h84, .ref h85, .ref h86, .ref h87, .ref h88, .ref h89, .ref h90, .ref h91, .int 0, .ref h92, .ref h93, .ref h94, .int 0])), (h48, .inl (k0, 4, .inl (fun _ => 0))), (h49, .inl (k1, 4, .inl (fun _ => 0))), (h50, .inl (k2, 400, .inl (fun _ => 0)))] sz) [])) (va_A [(h0, .inr (15, [.int 0, .int 0, .ref h1, .int 0, .int (-1), .ref h2, .ref h3, .ref h4, .ref h5, .ref h6, .ref h7, .ref h8, .ref h9, .ref h10, .ref h11, .ref h12, .ref h13, .ref h14, .ref h15, .ref h16, .ref h17, .ref h18, .ref h19, .ref h20, .ref h21, .ref h22, .ref h23, .ref h24, .ref h25, .ref h26, .ref h27, .int 0, .ref h28, .ref h29, .int 0, .int 0, .int 0, .int 0, .int 0, .int 0, .ref h30, .int 0, .ref h31, .ref h32, .ref h33, .ref h34, .ref h35, .ref h36, .ref h37, .ref h38, .int 0, .int 0, .int 0, .int 0, .ref h39, .ref h40, .ref h41, .int 0, .ref h42, .int 0, .ref h43, .int 0, .int 0, .ref h44, .ref h45, .ref h46, .int 0, .ref h47, .ref h48, .ref h49, .ref h50, .ref h51, .ref h52, .ref h53, .int 0, .ref h54, .int 0, .ref h55, .ref h56, .ref h57, .int 0, .ref h58, .ref h59, .ref h60, .ref h61, .int 0, .ref h62, .ref h63, .ref h64, .ref h65, .int 0, .int 0, .int 0, .int 0, .int 0, .int 0, .int 0, .int 0, .int 0, .ref h66, .int 0, .ref h67, .int 0, .int 0, .int 0, .int 0, .int 0, .ref h68, .int 0, .int 0, .ref h69, .int 0, .ref h70, .int 0, .ref h71, .ref h72, .int 0, .ref h73, .ref h74, .ref h75, .ref h76, .long 0, .int 0, .ref h77, .ref h78, .ref h79, .ref h80, .ref h81, .ref h82, .ref h83, .ref h84, .ref h85, .ref h86, .ref h87, .ref h88, .ref h89, .ref h90, .ref h91, .int 0, .ref h92, .ref h93, .ref h94, .int 0])), (h48, .inl (k0, 4, .inl (fun _ => 0))), (h49, .inl (k1, 4, .inl (fun _ => 0))), (h50, .inl (k2, 400, .inl (fun _ => 0)))] sz)) 0 0 (va_A [(h0, .inr (15, [.int 0, .int 0, .ref h1, .int 0, .int (-1), .ref h2, .ref h3, .ref h4, .ref h5, .ref h6, .ref h7, .ref h8, .ref h9, .ref h10, .ref h11, .ref h12, .ref h13, .ref h14, .ref h15, .ref h16, .ref h17, .ref h18, .ref h19, .ref h20, .ref h21, .ref h22, .ref h23, .ref h24, .ref h25, .ref h26, .ref h27, .int 0, .ref h28, .ref h29, .int 0, .int 0, .int 0, .int 0, .int 0, .int 0, .ref h30, .int 0, .ref h31, .ref h32, .ref h33, .ref h34, .ref h35, .ref h36, .ref h37, .ref h38, .int 0, .int 0, .int 0, .int 0, .ref h39, .ref h40, .ref h41, .int 0, .ref h42, .int 0, .ref h43, .int 0, .int 0, .ref h44, .ref h45, .ref h46, .int 0, .ref h47, .ref h48, .ref h49, .ref h50, .ref h51, .ref h52, .ref h53, .int 0, .ref h54, .int 0, .ref h55, .ref h56, .ref h57, .int 0, .ref h58, .ref h59, .ref h60, .ref h61, .int 0, .ref h62, .ref h63, .ref h64, .ref h65, .int 0, .int 0, .int 0, .int 0, .int 0, .int 0, .int 0, .int 0, .int 0, .ref h66, .int 0, .ref h67, .int 0, .int 0, .int 0, .int 0, .int 0, .ref h68, .int 0, .int 0, .ref h69, .int 0, .ref h70, .int 0, .ref h71, .ref h72, .int 0, .ref h73, .ref h74, .ref h75, .ref h76, .long 0, .int 0, .ref h77, .ref h78, .ref h79, .ref h80, .ref h81, .ref h82, .ref h83, .ref h84, .ref h85, .ref h86, .ref h87, .ref h88, .ref h89, .ref h90, .ref h91, .int 0, .ref h92, .ref h93, .ref h94, .int 0])), (h48, .inl (k0, 4, .inl (fun _ => 0))), (h49, .inl (k1, 4, .inl (fun _ => 0))), (h50, .inl (k2, 400, .inl (fun _ => 0)))] sz) := by
  refine Met.ofW (cc := cX12_put_) (maxL := 7) (ret := (some (.int))) (by decide) rfl ?_
  intro p e s m args below meth c s₁ B hml hv
  obtain ⟨rfl, hsz, hP, hK, hD0⟩ := hv
  have hx := B.exec
  have hb := B.bytes
  have hr := B.returns
  have hts := atoms_spec (ws := WS yX12_put_ cX12_put_ 7 (some (.int))) B.pre
  have ht : ∀ w ∈ TW, w.before _ s = true := fun w h => hts w (List.mem_cons_of_mem _ h)
  have hown : s.vm.findClass "PatternWorkshopModel" = some m.cls := findClass_of_methodNamed B.named
  have hlocks := B.notSynchronized
  subst hsz
  have hD := hD0.self (sz := s.heap.size)
  generalize hAe : va_A [(h0, .inr (15, [.int 0, .int 0, .ref h1, .int 0, .int (-1), .ref h2, .ref h3, .ref h4, .ref h5, .ref h6, .ref h7, .ref h8, .ref h9, .ref h10, .ref h11, .ref h12, .ref h13, .ref h14, .ref h15, .ref h16, .ref h17, .ref h18, .ref h19, .ref h20, .ref h21, .ref h22, .ref h23, .ref h24, .ref h25, .ref h26, .ref h27, .int 0, .ref h28, .ref h29, .int 0, .int 0, .int 0, .int 0, .int 0, .int 0, .ref h30, .int 0, .ref h31, .ref h32, .ref h33, .ref h34, .ref h35, .ref h36, .ref h37, .ref h38, .int 0, .int 0, .int 0, .int 0, .ref h39, .ref h40, .ref h41, .int 0, .ref h42, .int 0, .ref h43, .int 0, .int 0, .ref h44, .ref h45, .ref h46, .int 0, .ref h47, .ref h48, .ref h49, .ref h50, .ref h51, .ref h52, .ref h53, .int 0, .ref h54, .int 0, .ref h55, .ref h56, .ref h57, .int 0, .ref h58, .ref h59, .ref h60, .ref h61, .int 0, .ref h62, .ref h63, .ref h64, .ref h65, .int 0, .int 0, .int 0, .int 0, .int 0, .int 0, .int 0, .int 0, .int 0, .ref h66, .int 0, .ref h67, .int 0, .int 0, .int 0, .int 0, .int 0, .ref h68, .int 0, .int 0, .ref h69, .int 0, .ref h70, .int 0, .ref h71, .ref h72, .int 0, .ref h73, .ref h74, .ref h75, .ref h76, .long 0, .int 0, .ref h77, .ref h78, .ref h79, .ref h80, .ref h81, .ref h82, .ref h83, .ref h84, .ref h85, .ref h86, .ref h87, .ref h88, .ref h89, .ref h90, .ref h91, .int 0, .ref h92, .ref h93, .ref h94, .int 0])), (h48, .inl (k0, 4, .inl (fun _ => 0))), (h49, .inl (k1, 4, .inl (fun _ => 0))), (h50, .inl (k2, 400, .inl (fun _ => 0)))] s.heap.size = A at hD ⊢
  have hA : ∀ q : Nat, s.heap.size ≤ q → A q := fun q h => by rw [← hAe]; exact Or.inr h
  have hS : va_S A s.heap s.heap [] := va_S.rf
  have hP : va_P (dC, dI) vwCl [(h0, .inr (15, [.int 0, .int 0, .ref h1, .int 0, .int (-1), .ref h2, .ref h3, .ref h4, .ref h5, .ref h6, .ref h7, .ref h8, .ref h9, .ref h10, .ref h11, .ref h12, .ref h13, .ref h14, .ref h15, .ref h16, .ref h17, .ref h18, .ref h19, .ref h20, .ref h21, .ref h22, .ref h23, .ref h24, .ref h25, .ref h26, .ref h27, .int 0, .ref h28, .ref h29, .int 0, .int 0, .int 0, .int 0, .int 0, .int 0, .ref h30, .int 0, .ref h31, .ref h32, .ref h33, .ref h34, .ref h35, .ref h36, .ref h37, .ref h38, .int 0, .int 0, .int 0, .int 0, .ref h39, .ref h40, .ref h41, .int 0, .ref h42, .int 0, .ref h43, .int 0, .int 0, .ref h44, .ref h45, .ref h46, .int 0, .ref h47, .ref h48, .ref h49, .ref h50, .ref h51, .ref h52, .ref h53, .int 0, .ref h54, .int 0, .ref h55, .ref h56, .ref h57, .int 0, .ref h58, .ref h59, .ref h60, .ref h61, .int 0, .ref h62, .ref h63, .ref h64, .ref h65, .int 0, .int 0, .int 0, .int 0, .int 0, .int 0, .int 0, .int 0, .int 0, .ref h66, .int 0, .ref h67, .int 0, .int 0, .int 0, .int 0, .int 0, .ref h68, .int 0, .int 0, .ref h69, .int 0, .ref h70, .int 0, .ref h71, .ref h72, .int 0, .ref h73, .ref h74, .ref h75, .ref h76, .long 0, .int 0, .ref h77, .ref h78, .ref h79, .ref h80, .ref h81, .ref h82, .ref h83, .ref h84, .ref h85, .ref h86, .ref h87, .ref h88, .ref h89, .ref h90, .ref h91, .int 0, .ref h92, .ref h93, .ref h94, .int 0])), (h48, .inl (k0, 4, .inl (fun _ => 0))), (h49, .inl (k1, 4, .inl (fun _ => 0))), (h50, .inl (k2, 400, .inl (fun _ => 0)))] s.heap := hP
  have hl := lv_entry ([.ref h0, .int p0, .int p1, .long w0]) (n := 7) (Nat.le_of_ble_eq_true rfl)
  rw [lg_entry_eq]
  generalize (lg_sl ([.ref h0, .int p0, .int p1, .long w0]) ++ List.replicate (7 - (lg_sl ([.ref h0, .int p0, .int p1, .long w0])).length) Slot.unset).toArray = ls at hl ⊢
  have hl : lv_has ls 7 [(0, .ref h0), (1, .int p0), (2, .int p1), (3, .long w0)] := hl
  clear hD0
  refine lv_aload_n hx hb dX12_put__0 rfl (lv_at hl 0 rfl) ?_
  refine lv_iconst (v := 0) hx hb dX12_put__1 (by decide) ?_
  refine va_put (D := (dC, dI)) (ci := 15) (v := .int 0) (ty := .int) (C := RX12) (T := TX12) (N := 143) hx hb ht inX12 tyX12 tyX12_ok nmX12 hown hK hP hD hS 0 rfl rfl 0 (by decide) (ht _ tw_2140) (fun _ h9 => h9) rfl (by decide +kernel) rfl rfl (Nat.le_of_ble_eq_true rfl) dX12_put__2 (fun H_1 locs_1 hP_1 hD_1 hS_1 => ?_)
  have hP_1 : va_P (dC, dI) vwCl [(h0, .inr (15, [.int 0, .int 0, .ref h1, .int 0, .int (-1), .ref h2, .ref h3, .ref h4, .ref h5, .ref h6, .ref h7, .ref h8, .ref h9, .ref h10, .ref h11, .ref h12, .ref h13, .ref h14, .ref h15, .ref h16, .ref h17, .ref h18, .ref h19, .ref h20, .ref h21, .ref h22, .ref h23, .ref h24, .ref h25, .ref h26, .ref h27, .int 0, .ref h28, .ref h29, .int 0, .int 0, .int 0, .int 0, .int 0, .int 0, .ref h30, .int 0, .ref h31, .ref h32, .ref h33, .ref h34, .ref h35, .ref h36, .ref h37, .ref h38, .int 0, .int 0, .int 0, .int 0, .ref h39, .ref h40, .ref h41, .int 0, .ref h42, .int 0, .ref h43, .int 0, .int 0, .ref h44, .ref h45, .ref h46, .int 0, .ref h47, .ref h48, .ref h49, .ref h50, .ref h51, .ref h52, .ref h53, .int 0, .ref h54, .int 0, .ref h55, .ref h56, .ref h57, .int 0, .ref h58, .ref h59, .ref h60, .ref h61, .int 0, .ref h62, .ref h63, .ref h64, .ref h65, .int 0, .int 0, .int 0, .int 0, .int 0, .int 0, .int 0, .int 0, .int 0, .ref h66, .int 0, .ref h67, .int 0, .int 0, .int 0, .int 0, .int 0, .ref h68, .int 0, .int 0, .ref h69, .int 0, .ref h70, .int 0, .ref h71, .ref h72, .int 0, .ref h73, .ref h74, .ref h75, .ref h76, .long 0, .int 0, .ref h77, .ref h78, .ref h79, .ref h80, .ref h81, .ref h82, .ref h83, .ref h84, .ref h85, .ref h86, .ref h87, .ref h88, .ref h89, .ref h90, .ref h91, .int 0, .ref h92, .ref h93, .ref h94, .int 0])), (h48, .inl (k0, 4, .inl (fun _ => 0))), (h49, .inl (k1, 4, .inl (fun _ => 0))), (h50, .inl (k2, 400, .inl (fun _ => 0)))] H_1 := hP_1
  have hD_1 : va_D A [(h0, .inr (15, [.int 0, .int 0, .ref h1, .int 0, .int (-1), .ref h2, .ref h3, .ref h4, .ref h5, .ref h6, .ref h7, .ref h8, .ref h9, .ref h10, .ref h11, .ref h12, .ref h13, .ref h14, .ref h15, .ref h16, .ref h17, .ref h18, .ref h19, .ref h20, .ref h21, .ref h22, .ref h23, .ref h24, .ref h25, .ref h26, .ref h27, .int 0, .ref h28, .ref h29, .int 0, .int 0, .int 0, .int 0, .int 0, .int 0, .ref h30, .int 0, .ref h31, .ref h32, .ref h33, .ref h34, .ref h35, .ref h36, .ref h37, .ref h38, .int 0, .int 0, .int 0, .int 0, .ref h39, .ref h40, .ref h41, .int 0, .ref h42, .int 0, .ref h43, .int 0, .int 0, .ref h44, .ref h45, .ref h46, .int 0, .ref h47, .ref h48, .ref h49, .ref h50, .ref h51, .ref h52, .ref h53, .int 0, .ref h54, .int 0, .ref h55, .ref h56, .ref h57, .int 0, .ref h58, .ref h59, .ref h60, .ref h61, .int 0, .ref h62, .ref h63, .ref h64, .ref h65, .int 0, .int 0, .int 0, .int 0, .int 0, .int 0, .int 0, .int 0, .int 0, .ref h66, .int 0, .ref h67, .int 0, .int 0, .int 0, .int 0, .int 0, .ref h68, .int 0, .int 0, .ref h69, .int 0, .ref h70, .int 0, .ref h71, .ref h72, .int 0, .ref h73, .ref h74, .ref h75, .ref h76, .long 0, .int 0, .ref h77, .ref h78, .ref h79, .ref h80, .ref h81, .ref h82, .ref h83, .ref h84, .ref h85, .ref h86, .ref h87, .ref h88, .ref h89, .ref h90, .ref h91, .int 0, .ref h92, .ref h93, .ref h94, .int 0])), (h48, .inl (k0, 4, .inl (fun _ => 0))), (h49, .inl (k1, 4, .inl (fun _ => 0))), (h50, .inl (k2, 400, .inl (fun _ => 0)))] := hD_1
  clear hP hD hS
  refine lv_iload_n hx hb dX12_put__5 rfl (lv_at hl 1 rfl) ?_
  refine lv_iconst (v := 0) hx hb dX12_put__6 (by decide) ?_
  refine lv_iconst (v := 3) hx hb dX12_put__7 (by decide) ?_
  have hPc_2 := hP_1.sub (ws' := []) [] rfl
  have hDc_2 := hD_1.sub (ws' := []) [] (by decide) rfl
  have hKc_2 := hK.sub (tys' := []) [] rfl
  have hFc_2 := va_free (wc := []) hD_1 hS_1 hA [] rfl
  refine va_calli (va_runS (As := [.int p0, .int 0, .int 3]) (rest := []) ⟨hx, hb, hml, hown, ht⟩ (mt_X12_in_v2 l dC dI p0 H_1.size) (cwS 3 ht (goodS tw_2574 tw_2575 tw_249 gw_X12_in) rfl rfl rfl (by decide +kernel) ⟨Nat.le_of_ble_eq_true rfl, Nat.le_of_ble_eq_true rfl⟩) ⟨fun a U g mk q => by obtain ⟨q0, q1, qP, qK, qD⟩ := q; exact ⟨q0, q1, qP, va_K.moved (u := U) (U := U.calling g mk a) (Vm.Alike.refl U.vm) qK, qD⟩, fun U hU hW => ⟨rfl, by rw [hU], by rw [hU]; exact hPc_2, va_K.moved hW.alike hKc_2, hDc_2.weaken (fun _ _ _ _ => trivial)⟩⟩ rfl rfl hl.1 rfl (lv_room (Nat.le_of_ble_eq_true rfl)) dX12_put__8 ⟨Nat.le_of_ble_eq_true rfl, Nat.le_of_ble_eq_true rfl⟩) hS_1 (fun q _ h => hFc_2 q h) hFc_2 (fun r_2 u_2 t_2 H_2 locs_2 ht_2 hvm_2 hw_2 hB_2 hz_2 hk_2 hS_2 => ?_)
  rcases hw_2 with ⟨rfl, rfl, cc_2_0⟩ | ⟨rfl, rfl, cc_2_0, cc_2_1⟩ | ⟨rfl, rfl, cc_2_0, cc_2_1⟩
  · obtain ⟨hP1_2, hK1_2, hD1_2⟩ := hB_2
    rw [ht_2] at hP1_2
    have hK1_2 := va_K.moved hvm_2.symm hK1_2
    obtain ⟨hP_2, hD_2⟩ := va_join (wr := [(h0, .inr (15, [.int 0, .int 0, .ref h1, .int 0, .int (-1), .ref h2, .ref h3, .ref h4, .ref h5, .ref h6, .ref h7, .ref h8, .ref h9, .ref h10, .ref h11, .ref h12, .ref h13, .ref h14, .ref h15, .ref h16, .ref h17, .ref h18, .ref h19, .ref h20, .ref h21, .ref h22, .ref h23, .ref h24, .ref h25, .ref h26, .ref h27, .int 0, .ref h28, .ref h29, .int 0, .int 0, .int 0, .int 0, .int 0, .int 0, .ref h30, .int 0, .ref h31, .ref h32, .ref h33, .ref h34, .ref h35, .ref h36, .ref h37, .ref h38, .int 0, .int 0, .int 0, .int 0, .ref h39, .ref h40, .ref h41, .int 0, .ref h42, .int 0, .ref h43, .int 0, .int 0, .ref h44, .ref h45, .ref h46, .int 0, .ref h47, .ref h48, .ref h49, .ref h50, .ref h51, .ref h52, .ref h53, .int 0, .ref h54, .int 0, .ref h55, .ref h56, .ref h57, .int 0, .ref h58, .ref h59, .ref h60, .ref h61, .int 0, .ref h62, .ref h63, .ref h64, .ref h65, .int 0, .int 0, .int 0, .int 0, .int 0, .int 0, .int 0, .int 0, .int 0, .ref h66, .int 0, .ref h67, .int 0, .int 0, .int 0, .int 0, .int 0, .ref h68, .int 0, .int 0, .ref h69, .int 0, .ref h70, .int 0, .ref h71, .ref h72, .int 0, .ref h73, .ref h74, .ref h75, .ref h76, .long 0, .int 0, .ref h77, .ref h78, .ref h79, .ref h80, .ref h81, .ref h82, .ref h83, .ref h84, .ref h85, .ref h86, .ref h87, .ref h88, .ref h89, .ref h90, .ref h91, .int 0, .ref h92, .ref h93, .ref h94, .int 0])), (h48, .inl (k0, 4, .inl (fun _ => 0))), (h49, .inl (k1, 4, .inl (fun _ => 0))), (h50, .inl (k2, 400, .inl (fun _ => 0)))]) (w1 := []) hP_1 hD_1 [] [0, 1, 2, 3] rfl rfl (by decide) (by decide) hk_2 hFc_2 hP1_2 hD1_2
    have hK_2 := (hK.sub (tys' := [(k0, .boolean), (k1, .int), (k2, .int)]) [0, 1, 2] rfl).app hK1_2
    have hK_2 : va_K (dC, dI) vwCl [(k0, .boolean), (k1, .int), (k2, .int)] s := hK_2
    have hP_2 : va_P (dC, dI) vwCl [(h0, .inr (15, [.int 0, .int 0, .ref h1, .int 0, .int (-1), .ref h2, .ref h3, .ref h4, .ref h5, .ref h6, .ref h7, .ref h8, .ref h9, .ref h10, .ref h11, .ref h12, .ref h13, .ref h14, .ref h15, .ref h16, .ref h17, .ref h18, .ref h19, .ref h20, .ref h21, .ref h22, .ref h23, .ref h24, .ref h25, .ref h26, .ref h27, .int 0, .ref h28, .ref h29, .int 0, .int 0, .int 0, .int 0, .int 0, .int 0, .ref h30, .int 0, .ref h31, .ref h32, .ref h33, .ref h34, .ref h35, .ref h36, .ref h37, .ref h38, .int 0, .int 0, .int 0, .int 0, .ref h39, .ref h40, .ref h41, .int 0, .ref h42, .int 0, .ref h43, .int 0, .int 0, .ref h44, .ref h45, .ref h46, .int 0, .ref h47, .ref h48, .ref h49, .ref h50, .ref h51, .ref h52, .ref h53, .int 0, .ref h54, .int 0, .ref h55, .ref h56, .ref h57, .int 0, .ref h58, .ref h59, .ref h60, .ref h61, .int 0, .ref h62, .ref h63, .ref h64, .ref h65, .int 0, .int 0, .int 0, .int 0, .int 0, .int 0, .int 0, .int 0, .int 0, .ref h66, .int 0, .ref h67, .int 0, .int 0, .int 0, .int 0, .int 0, .ref h68, .int 0, .int 0, .ref h69, .int 0, .ref h70, .int 0, .ref h71, .ref h72, .int 0, .ref h73, .ref h74, .ref h75, .ref h76, .long 0, .int 0, .ref h77, .ref h78, .ref h79, .ref h80, .ref h81, .ref h82, .ref h83, .ref h84, .ref h85, .ref h86, .ref h87, .ref h88, .ref h89, .ref h90, .ref h91, .int 0, .ref h92, .ref h93, .ref h94, .int 0])), (h48, .inl (k0, 4, .inl (fun _ => 0))), (h49, .inl (k1, 4, .inl (fun _ => 0))), (h50, .inl (k2, 400, .inl (fun _ => 0)))] H_2 := hP_2
    have hD_2 : va_D A [(h0, .inr (15, [.int 0, .int 0, .ref h1, .int 0, .int (-1), .ref h2, .ref h3, .ref h4, .ref h5, .ref h6, .ref h7, .ref h8, .ref h9, .ref h10, .ref h11, .ref h12, .ref h13, .ref h14, .ref h15, .ref h16, .ref h17, .ref h18, .ref h19, .ref h20, .ref h21, .ref h22, .ref h23, .ref h24, .ref h25, .ref h26, .ref h27, .int 0, .ref h28, .ref h29, .int 0, .int 0, .int 0, .int 0, .int 0, .int 0, .ref h30, .int 0, .ref h31, .ref h32, .ref h33, .ref h34, .ref h35, .ref h36, .ref h37, .ref h38, .int 0, .int 0, .int 0, .int 0, .ref h39, .ref h40, .ref h41, .int 0, .ref h42, .int 0, .ref h43, .int 0, .int 0, .ref h44, .ref h45, .ref h46, .int 0, .ref h47, .ref h48, .ref h49, .ref h50, .ref h51, .ref h52, .ref h53, .int 0, .ref h54, .int 0, .ref h55, .ref h56, .ref h57, .int 0, .ref h58, .ref h59, .ref h60, .ref h61, .int 0, .ref h62, .ref h63, .ref h64, .ref h65, .int 0, .int 0, .int 0, .int 0, .int 0, .int 0, .int 0, .int 0, .int 0, .ref h66, .int 0, .ref h67, .int 0, .int 0, .int 0, .int 0, .int 0, .ref h68, .int 0, .int 0, .ref h69, .int 0, .ref h70, .int 0, .ref h71, .ref h72, .int 0, .ref h73, .ref h74, .ref h75, .ref h76, .long 0, .int 0, .ref h77, .ref h78, .ref h79, .ref h80, .ref h81, .ref h82, .ref h83, .ref h84, .ref h85, .ref h86, .ref h87, .ref h88, .ref h89, .ref h90, .ref h91, .int 0, .ref h92, .ref h93, .ref h94, .int 0])), (h48, .inl (k0, 4, .inl (fun _ => 0))), (h49, .inl (k1, 4, .inl (fun _ => 0))), (h50, .inl (k2, 400, .inl (fun _ => 0)))] := hD_2
    clear hP_1 hD_1 hS_1 hK hPc_2 hDc_2 hKc_2 hFc_2 hP1_2 hK1_2 hD1_2 hk_2 hz_2
    refine lv_if_ne (tgt := 17) hx hb dX12_put__11 (by decide) (fun c_ => absurd (by decide) c_) (fun _ => ?_)
    refine lv_bipush (v := (-2)) hx hb dX12_put__14 (by decide) ?_
    have hP9 := hP_2.sub (ws' := []) [] rfl
    have hD9 := hD_2.sub (ws' := []) [] (by decide) rfl
    have hK9 := hK_2.sub (tys' := []) [] rfl
    refine W.widen (k := 0) (n := 0) (by decide) (by decide) ?_
    exact W.iret (v := (-2)) hx hb hr (fun t9 ht9 hW9 => ⟨⟨(-2), 0, rfl, (Or.inl ⟨rfl, rfl, cc_2_0⟩), ⟨by rw [ht9]; exact hP9, va_K.moved hW9.alike hK9, hD9⟩⟩, hS_2.F ht9⟩) hS_2.2.2 dX12_put__16
  · obtain ⟨hP1_2, hK1_2, hD1_2⟩ := hB_2
    rw [ht_2] at hP1_2
    have hK1_2 := va_K.moved hvm_2.symm hK1_2
    obtain ⟨hP_2, hD_2⟩ := va_join (wr := [(h0, .inr (15, [.int 0, .int 0, .ref h1, .int 0, .int (-1), .ref h2, .ref h3, .ref h4, .ref h5, .ref h6, .ref h7, .ref h8, .ref h9, .ref h10, .ref h11, .ref h12, .ref h13, .ref h14, .ref h15, .ref h16, .ref h17, .ref h18, .ref h19, .ref h20, .ref h21, .ref h22, .ref h23, .ref h24, .ref h25, .ref h26, .ref h27, .int 0, .ref h28, .ref h29, .int 0, .int 0, .int 0, .int 0, .int 0, .int 0, .ref h30, .int 0, .ref h31, .ref h32, .ref h33, .ref h34, .ref h35, .ref h36, .ref h37, .ref h38, .int 0, .int 0, .int 0, .int 0, .ref h39, .ref h40, .ref h41, .int 0, .ref h42, .int 0, .ref h43, .int 0, .int 0, .ref h44, .ref h45, .ref h46, .int 0, .ref h47, .ref h48, .ref h49, .ref h50, .ref h51, .ref h52, .ref h53, .int 0, .ref h54, .int 0, .ref h55, .ref h56, .ref h57, .int 0, .ref h58, .ref h59, .ref h60, .ref h61, .int 0, .ref h62, .ref h63, .ref h64, .ref h65, .int 0, .int 0, .int 0, .int 0, .int 0, .int 0, .int 0, .int 0, .int 0, .ref h66, .int 0, .ref h67, .int 0, .int 0, .int 0, .int 0, .int 0, .ref h68, .int 0, .int 0, .ref h69, .int 0, .ref h70, .int 0, .ref h71, .ref h72, .int 0, .ref h73, .ref h74, .ref h75, .ref h76, .long 0, .int 0, .ref h77, .ref h78, .ref h79, .ref h80, .ref h81, .ref h82, .ref h83, .ref h84, .ref h85, .ref h86, .ref h87, .ref h88, .ref h89, .ref h90, .ref h91, .int 0, .ref h92, .ref h93, .ref h94, .int 0])), (h48, .inl (k0, 4, .inl (fun _ => 0))), (h49, .inl (k1, 4, .inl (fun _ => 0))), (h50, .inl (k2, 400, .inl (fun _ => 0)))]) (w1 := []) hP_1 hD_1 [] [0, 1, 2, 3] rfl rfl (by decide) (by decide) hk_2 hFc_2 hP1_2 hD1_2
    have hK_2 := (hK.sub (tys' := [(k0, .boolean), (k1, .int), (k2, .int)]) [0, 1, 2] rfl).app hK1_2
    have hK_2 : va_K (dC, dI) vwCl [(k0, .boolean), (k1, .int), (k2, .int)] s := hK_2
    have hP_2 : va_P (dC, dI) vwCl [(h0, .inr (15, [.int 0, .int 0, .ref h1, .int 0, .int (-1), .ref h2, .ref h3, .ref h4, .ref h5, .ref h6, .ref h7, .ref h8, .ref h9, .ref h10, .ref h11, .ref h12, .ref h13, .ref h14, .ref h15, .ref h16, .ref h17, .ref h18, .ref h19, .ref h20, .ref h21, .ref h22, .ref h23, .ref h24, .ref h25, .ref h26, .ref h27, .int 0, .ref h28, .ref h29, .int 0, .int 0, .int 0, .int 0, .int 0, .int 0, .ref h30, .int 0, .ref h31, .ref h32, .ref h33, .ref h34, .ref h35, .ref h36, .ref h37, .ref h38, .int 0, .int 0, .int 0, .int 0, .ref h39, .ref h40, .ref h41, .int 0, .ref h42, .int 0, .ref h43, .int 0, .int 0, .ref h44, .ref h45, .ref h46, .int 0, .ref h47, .ref h48, .ref h49, .ref h50, .ref h51, .ref h52, .ref h53, .int 0, .ref h54, .int 0, .ref h55, .ref h56, .ref h57, .int 0, .ref h58, .ref h59, .ref h60, .ref h61, .int 0, .ref h62, .ref h63, .ref h64, .ref h65, .int 0, .int 0, .int 0, .int 0, .int 0, .int 0, .int 0, .int 0, .int 0, .ref h66, .int 0, .ref h67, .int 0, .int 0, .int 0, .int 0, .int 0, .ref h68, .int 0, .int 0, .ref h69, .int 0, .ref h70, .int 0, .ref h71, .ref h72, .int 0, .ref h73, .ref h74, .ref h75, .ref h76, .long 0, .int 0, .ref h77, .ref h78, .ref h79, .ref h80, .ref h81, .ref h82, .ref h83, .ref h84, .ref h85, .ref h86, .ref h87, .ref h88, .ref h89, .ref h90, .ref h91, .int 0, .ref h92, .ref h93, .ref h94, .int 0])), (h48, .inl (k0, 4, .inl (fun _ => 0))), (h49, .inl (k1, 4, .inl (fun _ => 0))), (h50, .inl (k2, 400, .inl (fun _ => 0)))] H_2 := hP_2
    have hD_2 : va_D A [(h0, .inr (15, [.int 0, .int 0, .ref h1, .int 0, .int (-1), .ref h2, .ref h3, .ref h4, .ref h5, .ref h6, .ref h7, .ref h8, .ref h9, .ref h10, .ref h11, .ref h12, .ref h13, .ref h14, .ref h15, .ref h16, .ref h17, .ref h18, .ref h19, .ref h20, .ref h21, .ref h22, .ref h23, .ref h24, .ref h25, .ref h26, .ref h27, .int 0, .ref h28, .ref h29, .int 0, .int 0, .int 0, .int 0, .int 0, .int 0, .ref h30, .int 0, .ref h31, .ref h32, .ref h33, .ref h34, .ref h35, .ref h36, .ref h37, .ref h38, .int 0, .int 0, .int 0, .int 0, .ref h39, .ref h40, .ref h41, .int 0, .ref h42, .int 0, .ref h43, .int 0, .int 0, .ref h44, .ref h45, .ref h46, .int 0, .ref h47, .ref h48, .ref h49, .ref h50, .ref h51, .ref h52, .ref h53, .int 0, .ref h54, .int 0, .ref h55, .ref h56, .ref h57, .int 0, .ref h58, .ref h59, .ref h60, .ref h61, .int 0, .ref h62, .ref h63, .ref h64, .ref h65, .int 0, .int 0, .int 0, .int 0, .int 0, .int 0, .int 0, .int 0, .int 0, .ref h66, .int 0, .ref h67, .int 0, .int 0, .int 0, .int 0, .int 0, .ref h68, .int 0, .int 0, .ref h69, .int 0, .ref h70, .int 0, .ref h71, .ref h72, .int 0, .ref h73, .ref h74, .ref h75, .ref h76, .long 0, .int 0, .ref h77, .ref h78, .ref h79, .ref h80, .ref h81, .ref h82, .ref h83, .ref h84, .ref h85, .ref h86, .ref h87, .ref h88, .ref h89, .ref h90, .ref h91, .int 0, .ref h92, .ref h93, .ref h94, .int 0])), (h48, .inl (k0, 4, .inl (fun _ => 0))), (h49, .inl (k1, 4, .inl (fun _ => 0))), (h50, .inl (k2, 400, .inl (fun _ => 0)))] := hD_2
    clear hP_1 hD_1 hS_1 hK hPc_2 hDc_2 hKc_2 hFc_2 hP1_2 hK1_2 hD1_2 hk_2 hz_2
    refine lv_if_ne (tgt := 17) hx hb dX12_put__11 (by decide) (fun c_ => absurd (by decide) c_) (fun _ => ?_)
    refine lv_bipush (v := (-2)) hx hb dX12_put__14 (by decide) ?_
    have hP9 := hP_2.sub (ws' := []) [] rfl
    have hD9 := hD_2.sub (ws' := []) [] (by decide) rfl
    have hK9 := hK_2.sub (tys' := []) [] rfl
    refine W.widen (k := 0) (n := 0) (by decide) (by decide) ?_
    exact W.iret (v := (-2)) hx hb hr (fun t9 ht9 hW9 => ⟨⟨(-2), 1, rfl, (Or.inr (Or.inl ⟨rfl, rfl, cc_2_0, cc_2_1⟩)), ⟨by rw [ht9]; exact hP9, va_K.moved hW9.alike hK9, hD9⟩⟩, hS_2.F ht9⟩) hS_2.2.2 dX12_put__16
  · obtain ⟨hP1_2, hK1_2, hD1_2⟩ := hB_2
    rw [ht_2] at hP1_2
    have hK1_2 := va_K.moved hvm_2.symm hK1_2
    obtain ⟨hP_2, hD_2⟩ := va_join (wr := [(h0, .inr (15, [.int 0, .int 0, .ref h1, .int 0, .int (-1), .ref h2, .ref h3, .ref h4, .ref h5, .ref h6, .ref h7, .ref h8, .ref h9, .ref h10, .ref h11, .ref h12, .ref h13, .ref h14, .ref h15, .ref h16, .ref h17, .ref h18, .ref h19, .ref h20, .ref h21, .ref h22, .ref h23, .ref h24, .ref h25, .ref h26, .ref h27, .int 0, .ref h28, .ref h29, .int 0, .int 0, .int 0, .int 0, .int 0, .int 0, .ref h30, .int 0, .ref h31, .ref h32, .ref h33, .ref h34, .ref h35, .ref h36, .ref h37, .ref h38, .int 0, .int 0, .int 0, .int 0, .ref h39, .ref h40, .ref h41, .int 0, .ref h42, .int 0, .ref h43, .int 0, .int 0, .ref h44, .ref h45, .ref h46, .int 0, .ref h47, .ref h48, .ref h49, .ref h50, .ref h51, .ref h52, .ref h53, .int 0, .ref h54, .int 0, .ref h55, .ref h56, .ref h57, .int 0, .ref h58, .ref h59, .ref h60, .ref h61, .int 0, .ref h62, .ref h63, .ref h64, .ref h65, .int 0, .int 0, .int 0, .int 0, .int 0, .int 0, .int 0, .int 0, .int 0, .ref h66, .int 0, .ref h67, .int 0, .int 0, .int 0, .int 0, .int 0, .ref h68, .int 0, .int 0, .ref h69, .int 0, .ref h70, .int 0, .ref h71, .ref h72, .int 0, .ref h73, .ref h74, .ref h75, .ref h76, .long 0, .int 0, .ref h77, .ref h78, .ref h79, .ref h80, .ref h81, .ref h82, .ref h83, .ref h84, .ref h85, .ref h86, .ref h87, .ref h88, .ref h89, .ref h90, .ref h91, .int 0, .ref h92, .ref h93, .ref h94, .int 0])), (h48, .inl (k0, 4, .inl (fun _ => 0))), (h49, .inl (k1, 4, .inl (fun _ => 0))), (h50, .inl (k2, 400, .inl (fun _ => 0)))]) (w1 := []) hP_1 hD_1 [] [0, 1, 2, 3] rfl rfl (by decide) (by decide) hk_2 hFc_2 hP1_2 hD1_2
    have hK_2 := (hK.sub (tys' := [(k0, .boolean), (k1, .int), (k2, .int)]) [0, 1, 2] rfl).app hK1_2
    have hK_2 : va_K (dC, dI) vwCl [(k0, .boolean), (k1, .int), (k2, .int)] s := hK_2
    have hP_2 : va_P (dC, dI) vwCl [(h0, .inr (15, [.int 0, .int 0, .ref h1, .int 0, .int (-1), .ref h2, .ref h3, .ref h4, .ref h5, .ref h6, .ref h7, .ref h8, .ref h9, .ref h10, .ref h11, .ref h12, .ref h13, .ref h14, .ref h15, .ref h16, .ref h17, .ref h18, .ref h19, .ref h20, .ref h21, .ref h22, .ref h23, .ref h24, .ref h25, .ref h26, .ref h27, .int 0, .ref h28, .ref h29, .int 0, .int 0, .int 0, .int 0, .int 0, .int 0, .ref h30, .int 0, .ref h31, .ref h32, .ref h33, .ref h34, .ref h35, .ref h36, .ref h37, .ref h38, .int 0, .int 0, .int 0, .int 0, .ref h39, .ref h40, .ref h41, .int 0, .ref h42, .int 0, .ref h43, .int 0, .int 0, .ref h44, .ref h45, .ref h46, .int 0, .ref h47, .ref h48, .ref h49, .ref h50, .ref h51, .ref h52, .ref h53, .int 0, .ref h54, .int 0, .ref h55, .ref h56, .ref h57, .int 0, .ref h58, .ref h59, .ref h60, .ref h61, .int 0, .ref h62, .ref h63, .ref h64, .ref h65, .int 0, .int 0, .int 0, .int 0, .int 0, .int 0, .int 0, .int 0, .int 0, .ref h66, .int 0, .ref h67, .int 0, .int 0, .int 0, .int 0, .int 0, .ref h68, .int 0, .int 0, .ref h69, .int 0, .ref h70, .int 0, .ref h71, .ref h72, .int 0, .ref h73, .ref h74, .ref h75, .ref h76, .long 0, .int 0, .ref h77, .ref h78, .ref h79, .ref h80, .ref h81, .ref h82, .ref h83, .ref h84, .ref h85, .ref h86, .ref h87, .ref h88, .ref h89, .ref h90, .ref h91, .int 0, .ref h92, .ref h93, .ref h94, .int 0])), (h48, .inl (k0, 4, .inl (fun _ => 0))), (h49, .inl (k1, 4, .inl (fun _ => 0))), (h50, .inl (k2, 400, .inl (fun _ => 0)))] H_2 := hP_2
    have hD_2 : va_D A [(h0, .inr (15, [.int 0, .int 0, .ref h1, .int 0, .int (-1), .ref h2, .ref h3, .ref h4, .ref h5, .ref h6, .ref h7, .ref h8, .ref h9, .ref h10, .ref h11, .ref h12, .ref h13, .ref h14, .ref h15, .ref h16, .ref h17, .ref h18, .ref h19, .ref h20, .ref h21, .ref h22, .ref h23, .ref h24, .ref h25, .ref h26, .ref h27, .int 0, .ref h28, .ref h29, .int 0, .int 0, .int 0, .int 0, .int 0, .int 0, .ref h30, .int 0, .ref h31, .ref h32, .ref h33, .ref h34, .ref h35, .ref h36, .ref h37, .ref h38, .int 0, .int 0, .int 0, .int 0, .ref h39, .ref h40, .ref h41, .int 0, .ref h42, .int 0, .ref h43, .int 0, .int 0, .ref h44, .ref h45, .ref h46, .int 0, .ref h47, .ref h48, .ref h49, .ref h50, .ref h51, .ref h52, .ref h53, .int 0, .ref h54, .int 0, .ref h55, .ref h56, .ref h57, .int 0, .ref h58, .ref h59, .ref h60, .ref h61, .int 0, .ref h62, .ref h63, .ref h64, .ref h65, .int 0, .int 0, .int 0, .int 0, .int 0, .int 0, .int 0, .int 0, .int 0, .ref h66, .int 0, .ref h67, .int 0, .int 0, .int 0, .int 0, .int 0, .ref h68, .int 0, .int 0, .ref h69, .int 0, .ref h70, .int 0, .ref h71, .ref h72, .int 0, .ref h73, .ref h74, .ref h75, .ref h76, .long 0, .int 0, .ref h77, .ref h78, .ref h79, .ref h80, .ref h81, .ref h82, .ref h83, .ref h84, .ref h85, .ref h86, .ref h87, .ref h88, .ref h89, .ref h90, .ref h91, .int 0, .ref h92, .ref h93, .ref h94, .int 0])), (h48, .inl (k0, 4, .inl (fun _ => 0))), (h49, .inl (k1, 4, .inl (fun _ => 0))), (h50, .inl (k2, 400, .inl (fun _ => 0)))] := hD_2
    clear hP_1 hD_1 hS_1 hK hPc_2 hDc_2 hKc_2 hFc_2 hP1_2 hK1_2 hD1_2 hk_2 hz_2
    refine lv_if_ne (tgt := 17) hx hb dX12_put__11 (by decide) (fun _ => ?_) (fun c_ => absurd c_ (by decide))
    refine lv_iload_n hx hb dX12_put__17 rfl (lv_at hl 2 rfl) ?_
    refine lv_iconst (v := 0) hx hb dX12_put__18 (by decide) ?_
    refine lv_iconst (v := 4) hx hb dX12_put__19 (by decide) ?_
    have hPc_3 := hP_2.sub (ws' := []) [] rfl
    have hDc_3 := hD_2.sub (ws' := []) [] (by decide) rfl
    have hKc_3 := hK_2.sub (tys' := []) [] rfl
    have hFc_3 := va_free (wc := []) hD_2 hS_2 hA [] rfl
    refine va_calli (va_runS (As := [.int p1, .int 0, .int 4]) (rest := []) ⟨hx, hb, hml, hown, ht⟩ (mt_X12_in_v15 l dC dI p1 H_2.size) (cwS 3 ht (goodS tw_2574 tw_2575 tw_249 gw_X12_in) rfl rfl rfl (by decide +kernel) ⟨Nat.le_of_ble_eq_true rfl, Nat.le_of_ble_eq_true rfl⟩) ⟨fun a U g mk q => by obtain ⟨q0, q1, qP, qK, qD⟩ := q; exact ⟨q0, q1, qP, va_K.moved (u := U) (U := U.calling g mk a) (Vm.Alike.refl U.vm) qK, qD⟩, fun U hU hW => ⟨rfl, by rw [hU], by rw [hU]; exact hPc_3, va_K.moved hW.alike hKc_3, hDc_3.weaken (fun _ _ _ _ => trivial)⟩⟩ rfl rfl hl.1 rfl (lv_room (Nat.le_of_ble_eq_true rfl)) dX12_put__20 ⟨Nat.le_of_ble_eq_true rfl, Nat.le_of_ble_eq_true rfl⟩) hS_2 (fun q _ h => hFc_3 q h) hFc_3 (fun r_3 u_3 t_3 H_3 locs_3 ht_3 hvm_3 hw_3 hB_3 hz_3 hk_3 hS_3 => ?_)
    rcases hw_3 with ⟨rfl, rfl, cc_3_0⟩ | ⟨rfl, rfl, cc_3_0, cc_3_1⟩ | ⟨rfl, rfl, cc_3_0, cc_3_1⟩
    · obtain ⟨hP1_3, hK1_3, hD1_3⟩ := hB_3
      rw [ht_3] at hP1_3
      have hK1_3 := va_K.moved hvm_3.symm hK1_3
      obtain ⟨hP_3, hD_3⟩ := va_join (wr := [(h0, .inr (15, [.int 0, .int 0, .ref h1, .int 0, .int (-1), .ref h2, .ref h3, .ref h4, .ref h5, .ref h6, .ref h7, .ref h8, .ref h9, .ref h10, .ref h11, .ref h12, .ref h13, .ref h14, .ref h15, .ref h16, .ref h17, .ref h18, .ref h19, .ref h20, .ref h21, .ref h22, .ref h23, .ref h24, .ref h25, .ref h26, .ref h27, .int 0, .ref h28, .ref h29, .int 0, .int 0, .int 0, .int 0, .int 0, .int 0, .ref h30, .int 0, .ref h31, .ref h32, .ref h33, .ref h34, .ref h35, .ref h36, .ref h37, .ref h38, .int 0, .int 0, .int 0, .int 0, .ref h39, .ref h40, .ref h41, .int 0, .ref h42, .int 0, .ref h43, .int 0, .int 0, .ref h44, .ref h45, .ref h46, .int 0, .ref h47, .ref h48, .ref h49, .ref h50, .ref h51, .ref h52, .ref h53, .int 0, .ref h54, .int 0, .ref h55, .ref h56, .ref h57, .int 0, .ref h58, .ref h59, .ref h60, .ref h61, .int 0, .ref h62, .ref h63, .ref h64, .ref h65, .int 0, .int 0, .int 0, .int 0, .int 0, .int 0, .int 0, .int 0, .int 0, .ref h66, .int 0, .ref h67, .int 0, .int 0, .int 0, .int 0, .int 0, .ref h68, .int 0, .int 0, .ref h69, .int 0, .ref h70, .int 0, .ref h71, .ref h72, .int 0, .ref h73, .ref h74, .ref h75, .ref h76, .long 0, .int 0, .ref h77, .ref h78, .ref h79, .ref h80, .ref h81, .ref h82, .ref h83, .ref h84, .ref h85, .ref h86, .ref h87, .ref h88, .ref h89, .ref h90, .ref h91, .int 0, .ref h92, .ref h93, .ref h94, .int 0])), (h48, .inl (k0, 4, .inl (fun _ => 0))), (h49, .inl (k1, 4, .inl (fun _ => 0))), (h50, .inl (k2, 400, .inl (fun _ => 0)))]) (w1 := []) hP_2 hD_2 [] [0, 1, 2, 3] rfl rfl (by decide) (by decide) hk_3 hFc_3 hP1_3 hD1_3
      have hK_3 := (hK_2.sub (tys' := [(k0, .boolean), (k1, .int), (k2, .int)]) [0, 1, 2] rfl).app hK1_3
      have hK_3 : va_K (dC, dI) vwCl [(k0, .boolean), (k1, .int), (k2, .int)] s := hK_3
      have hP_3 : va_P (dC, dI) vwCl [(h0, .inr (15, [.int 0, .int 0, .ref h1, .int 0, .int (-1), .ref h2, .ref h3, .ref h4, .ref h5, .ref h6, .ref h7, .ref h8, .ref h9, .ref h10, .ref h11, .ref h12, .ref h13, .ref h14, .ref h15, .ref h16, .ref h17, .ref h18, .ref h19, .ref h20, .ref h21, .ref h22, .ref h23, .ref h24, .ref h25, .ref h26, .ref h27, .int 0, .ref h28, .ref h29, .int 0, .int 0, .int 0, .int 0, .int 0, .int 0, .ref h30, .int 0, .ref h31, .ref h32, .ref h33, .ref h34, .ref h35, .ref h36, .ref h37, .ref h38, .int 0, .int 0, .int 0, .int 0, .ref h39, .ref h40, .ref h41, .int 0, .ref h42, .int 0, .ref h43, .int 0, .int 0, .ref h44, .ref h45, .ref h46, .int 0, .ref h47, .ref h48, .ref h49, .ref h50, .ref h51, .ref h52, .ref h53, .int 0, .ref h54, .int 0, .ref h55, .ref h56, .ref h57, .int 0, .ref h58, .ref h59, .ref h60, .ref h61, .int 0, .ref h62, .ref h63, .ref h64, .ref h65, .int 0, .int 0, .int 0, .int 0, .int 0, .int 0, .int 0, .int 0, .int 0, .ref h66, .int 0, .ref h67, .int 0, .int 0, .int 0, .int 0, .int 0, .ref h68, .int 0, .int 0, .ref h69, .int 0, .ref h70, .int 0, .ref h71, .ref h72, .int 0, .ref h73, .ref h74, .ref h75, .ref h76, .long 0, .int 0, .ref h77, .ref h78, .ref h79, .ref h80, .ref h81, .ref h82, .ref h83, .ref h84, .ref h85, .ref h86, .ref h87, .ref h88, .ref h89, .ref h90, .ref h91, .int 0, .ref h92, .ref h93, .ref h94, .int 0])), (h48, .inl (k0, 4, .inl (fun _ => 0))), (h49, .inl (k1, 4, .inl (fun _ => 0))), (h50, .inl (k2, 400, .inl (fun _ => 0)))] H_3 := hP_3
      have hD_3 : va_D A [(h0, .inr (15, [.int 0, .int 0, .ref h1, .int 0, .int (-1), .ref h2, .ref h3, .ref h4, .ref h5, .ref h6, .ref h7, .ref h8, .ref h9, .ref h10, .ref h11, .ref h12, .ref h13, .ref h14, .ref h15, .ref h16, .ref h17, .ref h18, .ref h19, .ref h20, .ref h21, .ref h22, .ref h23, .ref h24, .ref h25, .ref h26, .ref h27, .int 0, .ref h28, .ref h29, .int 0, .int 0, .int 0, .int 0, .int 0, .int 0, .ref h30, .int 0, .ref h31, .ref h32, .ref h33, .ref h34, .ref h35, .ref h36, .ref h37, .ref h38, .int 0, .int 0, .int 0, .int 0, .ref h39, .ref h40, .ref h41, .int 0, .ref h42, .int 0, .ref h43, .int 0, .int 0, .ref h44, .ref h45, .ref h46, .int 0, .ref h47, .ref h48, .ref h49, .ref h50, .ref h51, .ref h52, .ref h53, .int 0, .ref h54, .int 0, .ref h55, .ref h56, .ref h57, .int 0, .ref h58, .ref h59, .ref h60, .ref h61, .int 0, .ref h62, .ref h63, .ref h64, .ref h65, .int 0, .int 0, .int 0, .int 0, .int 0, .int 0, .int 0, .int 0, .int 0, .ref h66, .int 0, .ref h67, .int 0, .int 0, .int 0, .int 0, .int 0, .ref h68, .int 0, .int 0, .ref h69, .int 0, .ref h70, .int 0, .ref h71, .ref h72, .int 0, .ref h73, .ref h74, .ref h75, .ref h76, .long 0, .int 0, .ref h77, .ref h78, .ref h79, .ref h80, .ref h81, .ref h82, .ref h83, .ref h84, .ref h85, .ref h86, .ref h87, .ref h88, .ref h89, .ref h90, .ref h91, .int 0, .ref h92, .ref h93, .ref h94, .int 0])), (h48, .inl (k0, 4, .inl (fun _ => 0))), (h49, .inl (k1, 4, .inl (fun _ => 0))), (h50, .inl (k2, 400, .inl (fun _ => 0)))] := hD_3
      clear hP_2 hD_2 hS_2 hK_2 hPc_3 hDc_3 hKc_3 hFc_3 hP1_3 hK1_3 hD1_3 hk_3 hz_3
      refine lv_if_ne (tgt := 29) hx hb dX12_put__23 (by decide) (fun c_ => absurd (by decide) c_) (fun _ => ?_)
      refine lv_bipush (v := (-4)) hx hb dX12_put__26 (by decide) ?_
      have hP9 := hP_3.sub (ws' := []) [] rfl
      have hD9 := hD_3.sub (ws' := []) [] (by decide) rfl
      have hK9 := hK_3.sub (tys' := []) [] rfl
      refine W.widen (k := 0) (n := 0) (by decide) (by decide) ?_
      exact W.iret (v := (-4)) hx hb hr (fun t9 ht9 hW9 => ⟨⟨(-4), 2, rfl, (Or.inr (Or.inr (Or.inl ⟨rfl, rfl, cc_2_0, cc_2_1, cc_3_0⟩))), ⟨by rw [ht9]; exact hP9, va_K.moved hW9.alike hK9, hD9⟩⟩, hS_3.F ht9⟩) hS_3.2.2 dX12_put__28
    · obtain ⟨hP1_3, hK1_3, hD1_3⟩ := hB_3
      rw [ht_3] at hP1_3
      have hK1_3 := va_K.moved hvm_3.symm hK1_3
      obtain ⟨hP_3, hD_3⟩ := va_join (wr := [(h0, .inr (15, [.int 0, .int 0, .ref h1, .int 0, .int (-1), .ref h2, .ref h3, .ref h4, .ref h5, .ref h6, .ref h7, .ref h8, .ref h9, .ref h10, .ref h11, .ref h12, .ref h13, .ref h14, .ref h15, .ref h16, .ref h17, .ref h18, .ref h19, .ref h20, .ref h21, .ref h22, .ref h23, .ref h24, .ref h25, .ref h26, .ref h27, .int 0, .ref h28, .ref h29, .int 0, .int 0, .int 0, .int 0, .int 0, .int 0, .ref h30, .int 0, .ref h31, .ref h32, .ref h33, .ref h34, .ref h35, .ref h36, .ref h37, .ref h38, .int 0, .int 0, .int 0, .int 0, .ref h39, .ref h40, .ref h41, .int 0, .ref h42, .int 0, .ref h43, .int 0, .int 0, .ref h44, .ref h45, .ref h46, .int 0, .ref h47, .ref h48, .ref h49, .ref h50, .ref h51, .ref h52, .ref h53, .int 0, .ref h54, .int 0, .ref h55, .ref h56, .ref h57, .int 0, .ref h58, .ref h59, .ref h60, .ref h61, .int 0, .ref h62, .ref h63, .ref h64, .ref h65, .int 0, .int 0, .int 0, .int 0, .int 0, .int 0, .int 0, .int 0, .int 0, .ref h66, .int 0, .ref h67, .int 0, .int 0, .int 0, .int 0, .int 0, .ref h68, .int 0, .int 0, .ref h69, .int 0, .ref h70, .int 0, .ref h71, .ref h72, .int 0, .ref h73, .ref h74, .ref h75, .ref h76, .long 0, .int 0, .ref h77, .ref h78, .ref h79, .ref h80, .ref h81, .ref h82, .ref h83, .ref h84, .ref h85, .ref h86, .ref h87, .ref h88, .ref h89, .ref h90, .ref h91, .int 0, .ref h92, .ref h93, .ref h94, .int 0])), (h48, .inl (k0, 4, .inl (fun _ => 0))), (h49, .inl (k1, 4, .inl (fun _ => 0))), (h50, .inl (k2, 400, .inl (fun _ => 0)))]) (w1 := []) hP_2 hD_2 [] [0, 1, 2, 3] rfl rfl (by decide) (by decide) hk_3 hFc_3 hP1_3 hD1_3
      have hK_3 := (hK_2.sub (tys' := [(k0, .boolean), (k1, .int), (k2, .int)]) [0, 1, 2] rfl).app hK1_3
      have hK_3 : va_K (dC, dI) vwCl [(k0, .boolean), (k1, .int), (k2, .int)] s := hK_3
      have hP_3 : va_P (dC, dI) vwCl [(h0, .inr (15, [.int 0, .int 0, .ref h1, .int 0, .int (-1), .ref h2, .ref h3, .ref h4, .ref h5, .ref h6, .ref h7, .ref h8, .ref h9, .ref h10, .ref h11, .ref h12, .ref h13, .ref h14, .ref h15, .ref h16, .ref h17, .ref h18, .ref h19, .ref h20, .ref h21, .ref h22, .ref h23, .ref h24, .ref h25, .ref h26, .ref h27, .int 0, .ref h28, .ref h29, .int 0, .int 0, .int 0, .int 0, .int 0, .int 0, .ref h30, .int 0, .ref h31, .ref h32, .ref h33, .ref h34, .ref h35, .ref h36, .ref h37, .ref h38, .int 0, .int 0, .int 0, .int 0, .ref h39, .ref h40, .ref h41, .int 0, .ref h42, .int 0, .ref h43, .int 0, .int 0, .ref h44, .ref h45, .ref h46, .int 0, .ref h47, .ref h48, .ref h49, .ref h50, .ref h51, .ref h52, .ref h53, .int 0, .ref h54, .int 0, .ref h55, .ref h56, .ref h57, .int 0, .ref h58, .ref h59, .ref h60, .ref h61, .int 0, .ref h62, .ref h63, .ref h64, .ref h65, .int 0, .int 0, .int 0, .int 0, .int 0, .int 0, .int 0, .int 0, .int 0, .ref h66, .int 0, .ref h67, .int 0, .int 0, .int 0, .int 0, .int 0, .ref h68, .int 0, .int 0, .ref h69, .int 0, .ref h70, .int 0, .ref h71, .ref h72, .int 0, .ref h73, .ref h74, .ref h75, .ref h76, .long 0, .int 0, .ref h77, .ref h78, .ref h79, .ref h80, .ref h81, .ref h82, .ref h83, .ref h84, .ref h85, .ref h86, .ref h87, .ref h88, .ref h89, .ref h90, .ref h91, .int 0, .ref h92, .ref h93, .ref h94, .int 0])), (h48, .inl (k0, 4, .inl (fun _ => 0))), (h49, .inl (k1, 4, .inl (fun _ => 0))), (h50, .inl (k2, 400, .inl (fun _ => 0)))] H_3 := hP_3
      have hD_3 : va_D A [(h0, .inr (15, [.int 0, .int 0, .ref h1, .int 0, .int (-1), .ref h2, .ref h3, .ref h4, .ref h5, .ref h6, .ref h7, .ref h8, .ref h9, .ref h10, .ref h11, .ref h12, .ref h13, .ref h14, .ref h15, .ref h16, .ref h17, .ref h18, .ref h19, .ref h20, .ref h21, .ref h22, .ref h23, .ref h24, .ref h25, .ref h26, .ref h27, .int 0, .ref h28, .ref h29, .int 0, .int 0, .int 0, .int 0, .int 0, .int 0, .ref h30, .int 0, .ref h31, .ref h32, .ref h33, .ref h34, .ref h35, .ref h36, .ref h37, .ref h38, .int 0, .int 0, .int 0, .int 0, .ref h39, .ref h40, .ref h41, .int 0, .ref h42, .int 0, .ref h43, .int 0, .int 0, .ref h44, .ref h45, .ref h46, .int 0, .ref h47, .ref h48, .ref h49, .ref h50, .ref h51, .ref h52, .ref h53, .int 0, .ref h54, .int 0, .ref h55, .ref h56, .ref h57, .int 0, .ref h58, .ref h59, .ref h60, .ref h61, .int 0, .ref h62, .ref h63, .ref h64, .ref h65, .int 0, .int 0, .int 0, .int 0, .int 0, .int 0, .int 0, .int 0, .int 0, .ref h66, .int 0, .ref h67, .int 0, .int 0, .int 0, .int 0, .int 0, .ref h68, .int 0, .int 0, .ref h69, .int 0, .ref h70, .int 0, .ref h71, .ref h72, .int 0, .ref h73, .ref h74, .ref h75, .ref h76, .long 0, .int 0, .ref h77, .ref h78, .ref h79, .ref h80, .ref h81, .ref h82, .ref h83, .ref h84, .ref h85, .ref h86, .ref h87, .ref h88, .ref h89, .ref h90, .ref h91, .int 0, .ref h92, .ref h93, .ref h94, .int 0])), (h48, .inl (k0, 4, .inl (fun _ => 0))), (h49, .inl (k1, 4, .inl (fun _ => 0))), (h50, .inl (k2, 400, .inl (fun _ => 0)))] := hD_3
      clear hP_2 hD_2 hS_2 hK_2 hPc_3 hDc_3 hKc_3 hFc_3 hP1_3 hK1_3 hD1_3 hk_3 hz_3
      refine lv_if_ne (tgt := 29) hx hb dX12_put__23 (by decide) (fun c_ => absurd (by decide) c_) (fun _ => ?_)
      refine lv_bipush (v := (-4)) hx hb dX12_put__26 (by decide) ?_
      have hP9 := hP_3.sub (ws' := []) [] rfl
      have hD9 := hD_3.sub (ws' := []) [] (by decide) rfl
      have hK9 := hK_3.sub (tys' := []) [] rfl
      refine W.widen (k := 0) (n := 0) (by decide) (by decide) ?_
      exact W.iret (v := (-4)) hx hb hr (fun t9 ht9 hW9 => ⟨⟨(-4), 3, rfl, (Or.inr (Or.inr (Or.inr (Or.inl ⟨rfl, rfl, cc_2_0, cc_2_1, cc_3_0, cc_3_1⟩)))), ⟨by rw [ht9]; exact hP9, va_K.moved hW9.alike hK9, hD9⟩⟩, hS_3.F ht9⟩) hS_3.2.2 dX12_put__28
    · obtain ⟨hP1_3, hK1_3, hD1_3⟩ := hB_3
      rw [ht_3] at hP1_3
      have hK1_3 := va_K.moved hvm_3.symm hK1_3
      obtain ⟨hP_3, hD_3⟩ := va_join (wr := [(h0, .inr (15, [.int 0, .int 0, .ref h1, .int 0, .int (-1), .ref h2, .ref h3, .ref h4, .ref h5, .ref h6, .ref h7, .ref h8, .ref h9, .ref h10, .ref h11, .ref h12, .ref h13, .ref h14, .ref h15, .ref h16, .ref h17, .ref h18, .ref h19, .ref h20, .ref h21, .ref h22, .ref h23, .ref h24, .ref h25, .ref h26, .ref h27, .int 0, .ref h28, .ref h29, .int 0, .int 0, .int 0, .int 0, .int 0, .int 0, .ref h30, .int 0, .ref h31, .ref h32, .ref h33, .ref h34, .ref h35, .ref h36, .ref h37, .ref h38, .int 0, .int 0, .int 0, .int 0, .ref h39, .ref h40, .ref h41, .int 0, .ref h42, .int 0, .ref h43, .int 0, .int 0, .ref h44, .ref h45, .ref h46, .int 0, .ref h47, .ref h48, .ref h49, .ref h50, .ref h51, .ref h52, .ref h53, .int 0, .ref h54, .int 0, .ref h55, .ref h56, .ref h57, .int 0, .ref h58, .ref h59, .ref h60, .ref h61, .int 0, .ref h62, .ref h63, .ref h64, .ref h65, .int 0, .int 0, .int 0, .int 0, .int 0, .int 0, .int 0, .int 0, .int 0, .ref h66, .int 0, .ref h67, .int 0, .int 0, .int 0, .int 0, .int 0, .ref h68, .int 0, .int 0, .ref h69, .int 0, .ref h70, .int 0, .ref h71, .ref h72, .int 0, .ref h73, .ref h74, .ref h75, .ref h76, .long 0, .int 0, .ref h77, .ref h78, .ref h79, .ref h80, .ref h81, .ref h82, .ref h83, .ref h84, .ref h85, .ref h86, .ref h87, .ref h88, .ref h89, .ref h90, .ref h91, .int 0, .ref h92, .ref h93, .ref h94, .int 0])), (h48, .inl (k0, 4, .inl (fun _ => 0))), (h49, .inl (k1, 4, .inl (fun _ => 0))), (h50, .inl (k2, 400, .inl (fun _ => 0)))]) (w1 := []) hP_2 hD_2 [] [0, 1, 2, 3] rfl rfl (by decide) (by decide) hk_3 hFc_3 hP1_3 hD1_3
      have hK_3 := (hK_2.sub (tys' := [(k0, .boolean), (k1, .int), (k2, .int)]) [0, 1, 2] rfl).app hK1_3
      have hK_3 : va_K (dC, dI) vwCl [(k0, .boolean), (k1, .int), (k2, .int)] s := hK_3
      have hP_3 : va_P (dC, dI) vwCl [(h0, .inr (15, [.int 0, .int 0, .ref h1, .int 0, .int (-1), .ref h2, .ref h3, .ref h4, .ref h5, .ref h6, .ref h7, .ref h8, .ref h9, .ref h10, .ref h11, .ref h12, .ref h13, .ref h14, .ref h15, .ref h16, .ref h17, .ref h18, .ref h19, .ref h20, .ref h21, .ref h22, .ref h23, .ref h24, .ref h25, .ref h26, .ref h27, .int 0, .ref h28, .ref h29, .int 0, .int 0, .int 0, .int 0, .int 0, .int 0, .ref h30, .int 0, .ref h31, .ref h32, .ref h33, .ref h34, .ref h35, .ref h36, .ref h37, .ref h38, .int 0, .int 0, .int 0, .int 0, .ref h39, .ref h40, .ref h41, .int 0, .ref h42, .int 0, .ref h43, .int 0, .int 0, .ref h44, .ref h45, .ref h46, .int 0, .ref h47, .ref h48, .ref h49, .ref h50, .ref h51, .ref h52, .ref h53, .int 0, .ref h54, .int 0, .ref h55, .ref h56, .ref h57, .int 0, .ref h58, .ref h59, .ref h60, .ref h61, .int 0, .ref h62, .ref h63, .ref h64, .ref h65, .int 0, .int 0, .int 0, .int 0, .int 0, .int 0, .int 0, .int 0, .int 0, .ref h66, .int 0, .ref h67, .int 0, .int 0, .int 0, .int 0, .int 0, .ref h68, .int 0, .int 0, .ref h69, .int 0, .ref h70, .int 0, .ref h71, .ref h72, .int 0, .ref h73, .ref h74, .ref h75, .ref h76, .long 0, .int 0, .ref h77, .ref h78, .ref h79, .ref h80, .ref h81, .ref h82, .ref h83, .ref h84, .ref h85, .ref h86, .ref h87, .ref h88, .ref h89, .ref h90, .ref h91, .int 0, .ref h92, .ref h93, .ref h94, .int 0])), (h48, .inl (k0, 4, .inl (fun _ => 0))), (h49, .inl (k1, 4, .inl (fun _ => 0))), (h50, .inl (k2, 400, .inl (fun _ => 0)))] H_3 := hP_3
      have hD_3 : va_D A [(h0, .inr (15, [.int 0, .int 0, .ref h1, .int 0, .int (-1), .ref h2, .ref h3, .ref h4, .ref h5, .ref h6, .ref h7, .ref h8, .ref h9, .ref h10, .ref h11, .ref h12, .ref h13, .ref h14, .ref h15, .ref h16, .ref h17, .ref h18, .ref h19, .ref h20, .ref h21, .ref h22, .ref h23, .ref h24, .ref h25, .ref h26, .ref h27, .int 0, .ref h28, .ref h29, .int 0, .int 0, .int 0, .int 0, .int 0, .int 0, .ref h30, .int 0, .ref h31, .ref h32, .ref h33, .ref h34, .ref h35, .ref h36, .ref h37, .ref h38, .int 0, .int 0, .int 0, .int 0, .ref h39, .ref h40, .ref h41, .int 0, .ref h42, .int 0, .ref h43, .int 0, .int 0, .ref h44, .ref h45, .ref h46, .int 0, .ref h47, .ref h48, .ref h49, .ref h50, .ref h51, .ref h52, .ref h53, .int 0, .ref h54, .int 0, .ref h55, .ref h56, .ref h57, .int 0, .ref h58, .ref h59, .ref h60, .ref h61, .int 0, .ref h62, .ref h63, .ref h64, .ref h65, .int 0, .int 0, .int 0, .int 0, .int 0, .int 0, .int 0, .int 0, .int 0, .ref h66, .int 0, .ref h67, .int 0, .int 0, .int 0, .int 0, .int 0, .ref h68, .int 0, .int 0, .ref h69, .int 0, .ref h70, .int 0, .ref h71, .ref h72, .int 0, .ref h73, .ref h74, .ref h75, .ref h76, .long 0, .int 0, .ref h77, .ref h78, .ref h79, .ref h80, .ref h81, .ref h82, .ref h83, .ref h84, .ref h85, .ref h86, .ref h87, .ref h88, .ref h89, .ref h90, .ref h91, .int 0, .ref h92, .ref h93, .ref h94, .int 0])), (h48, .inl (k0, 4, .inl (fun _ => 0))), (h49, .inl (k1, 4, .inl (fun _ => 0))), (h50, .inl (k2, 400, .inl (fun _ => 0)))] := hD_3
      clear hP_2 hD_2 hS_2 hK_2 hPc_3 hDc_3 hKc_3 hFc_3 hP1_3 hK1_3 hD1_3 hk_3 hz_3
      refine lv_if_ne (tgt := 29) hx hb dX12_put__23 (by decide) (fun _ => ?_) (fun c_ => absurd c_ (by decide))
      rcases sp_5 cc_3_0 cc_3_1 with rfl | rfl | rfl | rfl | rfl
      · refine lv_aload_n hx hb dX12_put__29 rfl (lv_at hl 0 rfl) ?_
        refine va_get (D := (dC, dI)) (ci := 15) (v := .ref h48) (C := RX12) (T := TX12) (N := 143) hx hb ht inX12 hown hK_3 hP_3 0 rfl rfl 68 (by decide) (ht _ tw_2208) (fun _ h9 => h9) rfl dX12_put__30 ?_
        refine lv_iload_n hx hb dX12_put__33 rfl (lv_at hl 1 rfl) ?_
        rcases sp_4 cc_2_0 cc_2_1 with rfl | rfl | rfl | rfl
        · refine va_zald hx hb hK_3 hP_3 1 0 rfl rfl (i := 0) (vpi (by decide)) dX12_put__34 ?_
          refine W.eq (g2 := F0 m 35 ls [.int 0]) rfl ?_
          refine lv_if_eq (tgt := 47) hx hb dX12_put__35 (by decide) (fun _ => ?_) (fun c_ => absurd (by decide) c_)
          refine lv_iconst (v := 0) hx hb dX12_put__47 (by decide) ?_
          refine lv_istore (lv' := [(5, .int 0), (0, .ref h0), (1, .int 0), (2, .int 0), (3, .long w0)]) hx hb dX12_put__48 hl (by decide) rfl (fun ls_4 hl_4 => ?_)
          clear hl
          refine lv_iload hx hb dX12_put__50 (lv_at hl_4 0 rfl) ?_
          refine lv_iload_n hx hb dX12_put__52 rfl (lv_at hl_4 3 rfl) ?_
          refine lv_iadd hx hb dX12_put__53 ?_
          refine lv_topi (fun x_5 ex_5 => ?_)
          obtain rfl : x_5 = 0 := ex_5.trans (by decide)
          refine lv_bipush (v := 100) hx hb dX12_put__54 (by decide) ?_
          refine lv_icmp_le (tgt := 62) hx hb dX12_put__56 (by decide) (fun _ => ?_) (fun c_ => absurd (by decide) c_)
          refine lv_iconst (v := 0) hx hb dX12_put__62 (by decide) ?_
          refine lv_istore (lv' := [(6, .int 0), (5, .int 0), (0, .ref h0), (1, .int 0), (2, .int 0), (3, .long w0)]) hx hb dX12_put__63 hl_4 (by decide) rfl (fun ls_6 hl_6 => ?_)
          clear hl_4
          refine lv_iload hx hb dX12_put__65 (lv_at hl_6 0 rfl) ?_
          refine lv_iload_n hx hb dX12_put__67 rfl (lv_at hl_6 4 rfl) ?_
          refine lv_icmp_ge (tgt := 108) hx hb dX12_put__68 (by decide) (fun _ => ?_) (fun c_ => absurd (by decide) c_)
          refine lv_aload_n hx hb dX12_put__108 rfl (lv_at hl_6 2 rfl) ?_
          refine va_get (D := (dC, dI)) (ci := 15) (v := .ref h48) (C := RX12) (T := TX12) (N := 143) hx hb ht inX12 hown hK_3 hP_3 0 rfl rfl 68 (by decide) (ht _ tw_2208) (fun _ h9 => h9) rfl dX12_put__109 ?_
          refine lv_iload_n hx hb dX12_put__112 rfl (lv_at hl_6 3 rfl) ?_
          refine lv_iconst (v := 1) hx hb dX12_put__113 (by decide) ?_
          refine va_zast hx hb hK_3 hP_3 hD_3 hS_3 1 0 rfl rfl (i := 0) (vpi (by decide)) dX12_put__114 (fun H_7 locs_7 hP_7 hD_7 hS_7 => ?_)
          have hP_7 : va_P (dC, dI) vwCl [(h0, .inr (15, [.int 0, .int 0, .ref h1, .int 0, .int (-1), .ref h2, .ref h3, .ref h4, .ref h5, .ref h6, .ref h7, .ref h8, .ref h9, .ref h10, .ref h11, .ref h12, .ref h13, .ref h14, .ref h15, .ref h16, .ref h17, .ref h18, .ref h19, .ref h20, .ref h21, .ref h22, .ref h23, .ref h24, .ref h25, .ref h26, .ref h27, .int 0, .ref h28, .ref h29, .int 0, .int 0, .int 0, .int 0, .int 0, .int 0, .ref h30, .int 0, .ref h31, .ref h32, .ref h33, .ref h34, .ref h35, .ref h36, .ref h37, .ref h38, .int 0, .int 0, .int 0, .int 0, .ref h39, .ref h40, .ref h41, .int 0, .ref h42, .int 0, .ref h43, .int 0, .int 0, .ref h44, .ref h45, .ref h46, .int 0, .ref h47, .ref h48, .ref h49, .ref h50, .ref h51, .ref h52, .ref h53, .int 0, .ref h54, .int 0, .ref h55, .ref h56, .ref h57, .int 0, .ref h58, .ref h59, .ref h60, .ref h61, .int 0, .ref h62, .ref h63, .ref h64, .ref h65, .int 0, .int 0, .int 0, .int 0, .int 0, .int 0, .int 0, .int 0, .int 0, .ref h66, .int 0, .ref h67, .int 0, .int 0, .int 0, .int 0, .int 0, .ref h68, .int 0, .int 0, .ref h69, .int 0, .ref h70, .int 0, .ref h71, .ref h72, .int 0, .ref h73, .ref h74, .ref h75, .ref h76, .long 0, .int 0, .ref h77, .ref h78, .ref h79, .ref h80, .ref h81, .ref h82, .ref h83, .ref h84, .ref h85, .ref h86, .ref h87, .ref h88, .ref h89, .ref h90, .ref h91, .int 0, .ref h92, .ref h93, .ref h94, .int 0])), (h48, .inl (k0, 4, .inl (upd (fun _ => 0) 0 1))), (h49, .inl (k1, 4, .inl (fun _ => 0))), (h50, .inl (k2, 400, .inl (fun _ => 0)))] H_7 := hP_7
          have hD_7 : va_D A [(h0, .inr (15, [.int 0, .int 0, .ref h1, .int 0, .int (-1), .ref h2, .ref h3, .ref h4, .ref h5, .ref h6, .ref h7, .ref h8, .ref h9, .ref h10, .ref h11, .ref h12, .ref h13, .ref h14, .ref h15, .ref h16, .ref h17, .ref h18, .ref h19, .ref h20, .ref h21, .ref h22, .ref h23, .ref h24, .ref h25, .ref h26, .ref h27, .int 0, .ref h28, .ref h29, .int 0, .int 0, .int 0, .int 0, .int 0, .int 0, .ref h30, .int 0, .ref h31, .ref h32, .ref h33, .ref h34, .ref h35, .ref h36, .ref h37, .ref h38, .int 0, .int 0, .int 0, .int 0, .ref h39, .ref h40, .ref h41, .int 0, .ref h42, .int 0, .ref h43, .int 0, .int 0, .ref h44, .ref h45, .ref h46, .int 0, .ref h47, .ref h48, .ref h49, .ref h50, .ref h51, .ref h52, .ref h53, .int 0, .ref h54, .int 0, .ref h55, .ref h56, .ref h57, .int 0, .ref h58, .ref h59, .ref h60, .ref h61, .int 0, .ref h62, .ref h63, .ref h64, .ref h65, .int 0, .int 0, .int 0, .int 0, .int 0, .int 0, .int 0, .int 0, .int 0, .ref h66, .int 0, .ref h67, .int 0, .int 0, .int 0, .int 0, .int 0, .ref h68, .int 0, .int 0, .ref h69, .int 0, .ref h70, .int 0, .ref h71, .ref h72, .int 0, .ref h73, .ref h74, .ref h75, .ref h76, .long 0, .int 0, .ref h77, .ref h78, .ref h79, .ref h80, .ref h81, .ref h82, .ref h83, .ref h84, .ref h85, .ref h86, .ref h87, .ref h88, .ref h89, .ref h90, .ref h91, .int 0, .ref h92, .ref h93, .ref h94, .int 0])), (h48, .inl (k0, 4, .inl (upd (fun _ => 0) 0 1))), (h49, .inl (k1, 4, .inl (fun _ => 0))), (h50, .inl (k2, 400, .inl (fun _ => 0)))] := hD_7
          clear hP_3 hD_3 hS_3
          refine lv_aload_n hx hb dX12_put__115 rfl (lv_at hl_6 2 rfl) ?_
          refine va_get (D := (dC, dI)) (ci := 15) (v := .ref h49) (C := RX12) (T := TX12) (N := 143) hx hb ht inX12 hown hK_3 hP_7 0 rfl rfl 69 (by decide) (ht _ tw_2209) (fun _ h9 => h9) rfl dX12_put__116 ?_
          refine lv_iload_n hx hb dX12_put__119 rfl (lv_at hl_6 3 rfl) ?_
          refine lv_iload hx hb dX12_put__120 (lv_at hl_6 1 rfl) ?_
          refine lv_iload_n hx hb dX12_put__122 rfl (lv_at hl_6 4 rfl) ?_
          refine lv_iadd hx hb dX12_put__123 ?_
          refine lv_topi (fun x_8 ex_8 => ?_)
          obtain rfl : x_8 = 0 := ex_8.trans (by decide)
          refine va_iast hx hb hK_3 hP_7 hD_7 hS_7 2 1 rfl rfl (i := 0) (vpi (by decide)) dX12_put__124 (fun H_9 locs_9 hP_9 hD_9 hS_9 => ?_)
          have hP_9 : va_P (dC, dI) vwCl [(h0, .inr (15, [.int 0, .int 0, .ref h1, .int 0, .int (-1), .ref h2, .ref h3, .ref h4, .ref h5, .ref h6, .ref h7, .ref h8, .ref h9, .ref h10, .ref h11, .ref h12, .ref h13, .ref h14, .ref h15, .ref h16, .ref h17, .ref h18, .ref h19, .ref h20, .ref h21, .ref h22, .ref h23, .ref h24, .ref h25, .ref h26, .ref h27, .int 0, .ref h28, .ref h29, .int 0, .int 0, .int 0, .int 0, .int 0, .int 0, .ref h30, .int 0, .ref h31, .ref h32, .ref h33, .ref h34, .ref h35, .ref h36, .ref h37, .ref h38, .int 0, .int 0, .int 0, .int 0, .ref h39, .ref h40, .ref h41, .int 0, .ref h42, .int 0, .ref h43, .int 0, .int 0, .ref h44, .ref h45, .ref h46, .int 0, .ref h47, .ref h48, .ref h49, .ref h50, .ref h51, .ref h52, .ref h53, .int 0, .ref h54, .int 0, .ref h55, .ref h56, .ref h57, .int 0, .ref h58, .ref h59, .ref h60, .ref h61, .int 0, .ref h62, .ref h63, .ref h64, .ref h65, .int 0, .int 0, .int 0, .int 0, .int 0, .int 0, .int 0, .int 0, .int 0, .ref h66, .int 0, .ref h67, .int 0, .int 0, .int 0, .int 0, .int 0, .ref h68, .int 0, .int 0, .ref h69, .int 0, .ref h70, .int 0, .ref h71, .ref h72, .int 0, .ref h73, .ref h74, .ref h75, .ref h76, .long 0, .int 0, .ref h77, .ref h78, .ref h79, .ref h80, .ref h81, .ref h82, .ref h83, .ref h84, .ref h85, .ref h86, .ref h87, .ref h88, .ref h89, .ref h90, .ref h91, .int 0, .ref h92, .ref h93, .ref h94, .int 0])), (h48, .inl (k0, 4, .inl (upd (fun _ => 0) 0 1))), (h49, .inl (k1, 4, .inl (upd (fun _ => 0) 0 0))), (h50, .inl (k2, 400, .inl (fun _ => 0)))] H_9 := hP_9
          have hD_9 : va_D A [(h0, .inr (15, [.int 0, .int 0, .ref h1, .int 0, .int (-1), .ref h2, .ref h3, .ref h4, .ref h5, .ref h6, .ref h7, .ref h8, .ref h9, .ref h10, .ref h11, .ref h12, .ref h13, .ref h14, .ref h15, .ref h16, .ref h17, .ref h18, .ref h19, .ref h20, .ref h21, .ref h22, .ref h23, .ref h24, .ref h25, .ref h26, .ref h27, .int 0, .ref h28, .ref h29, .int 0, .int 0, .int 0, .int 0, .int 0, .int 0, .ref h30, .int 0, .ref h31, .ref h32, .ref h33, .ref h34, .ref h35, .ref h36, .ref h37, .ref h38, .int 0, .int 0, .int 0, .int 0, .ref h39, .ref h40, .ref h41, .int 0, .ref h42, .int 0, .ref h43, .int 0, .int 0, .ref h44, .ref h45, .ref h46, .int 0, .ref h47, .ref h48, .ref h49, .ref h50, .ref h51, .ref h52, .ref h53, .int 0, .ref h54, .int 0, .ref h55, .ref h56, .ref h57, .int 0, .ref h58, .ref h59, .ref h60, .ref h61, .int 0, .ref h62, .ref h63, .ref h64, .ref h65, .int 0, .int 0, .int 0, .int 0, .int 0, .int 0, .int 0, .int 0, .int 0, .ref h66, .int 0, .ref h67, .int 0, .int 0, .int 0, .int 0, .int 0, .ref h68, .int 0, .int 0, .ref h69, .int 0, .ref h70, .int 0, .ref h71, .ref h72, .int 0, .ref h73, .ref h74, .ref h75, .ref h76, .long 0, .int 0, .ref h77, .ref h78, .ref h79, .ref h80, .ref h81, .ref h82, .ref h83, .ref h84, .ref h85, .ref h86, .ref h87, .ref h88, .ref h89, .ref h90, .ref h91, .int 0, .ref h92, .ref h93, .ref h94, .int 0])), (h48, .inl (k0, 4, .inl (upd (fun _ => 0) 0 1))), (h49, .inl (k1, 4, .inl (upd (fun _ => 0) 0 0))), (h50, .inl (k2, 400, .inl (fun _ => 0)))] := hD_9
          clear hP_7 hD_7 hS_7
          refine lv_aload_n hx hb dX12_put__125 rfl (lv_at hl_6 2 rfl) ?_
          refine lv_aload_n hx hb dX12_put__126 rfl (lv_at hl_6 2 rfl) ?_
          refine va_get (D := (dC, dI)) (ci := 15) (v := .int 0) (C := RX12) (T := TX12) (N := 143) hx hb ht inX12 hown hK_3 hP_9 0 rfl rfl 102 (by decide) (ht _ tw_2242) (fun _ h9 => h9) rfl dX12_put__127 ?_
          refine lv_if_eq (tgt := 145) hx hb dX12_put__130 (by decide) (fun _ => ?_) (fun c_ => absurd (by decide) c_)
          refine lv_iconst (v := 0) hx hb dX12_put__145 (by decide) ?_
          refine va_put (D := (dC, dI)) (ci := 15) (v := .int 0) (ty := .boolean) (C := RX12) (T := TX12) (N := 143) hx hb ht inX12 tyX12 tyX12_ok nmX12 hown hK_3 hP_9 hD_9 hS_9 0 rfl rfl 102 (by decide) (ht _ tw_2242) (fun _ h9 => h9) rfl (by decide +kernel) rfl rfl (Nat.le_of_ble_eq_true rfl) dX12_put__146 (fun H_10 locs_10 hP_10 hD_10 hS_10 => ?_)
          have hP_10 : va_P (dC, dI) vwCl [(h0, .inr (15, [.int 0, .int 0, .ref h1, .int 0, .int (-1), .ref h2, .ref h3, .ref h4, .ref h5, .ref h6, .ref h7, .ref h8, .ref h9, .ref h10, .ref h11, .ref h12, .ref h13, .ref h14, .ref h15, .ref h16, .ref h17, .ref h18, .ref h19, .ref h20, .ref h21, .ref h22, .ref h23, .ref h24, .ref h25, .ref h26, .ref h27, .int 0, .ref h28, .ref h29, .int 0, .int 0, .int 0, .int 0, .int 0, .int 0, .ref h30, .int 0, .ref h31, .ref h32, .ref h33, .ref h34, .ref h35, .ref h36, .ref h37, .ref h38, .int 0, .int 0, .int 0, .int 0, .ref h39, .ref h40, .ref h41, .int 0, .ref h42, .int 0, .ref h43, .int 0, .int 0, .ref h44, .ref h45, .ref h46, .int 0, .ref h47, .ref h48, .ref h49, .ref h50, .ref h51, .ref h52, .ref h53, .int 0, .ref h54, .int 0, .ref h55, .ref h56, .ref h57, .int 0, .ref h58, .ref h59, .ref h60, .ref h61, .int 0, .ref h62, .ref h63, .ref h64, .ref h65, .int 0, .int 0, .int 0, .int 0, .int 0, .int 0, .int 0, .int 0, .int 0, .ref h66, .int 0, .ref h67, .int 0, .int 0, .int 0, .int 0, .int 0, .ref h68, .int 0, .int 0, .ref h69, .int 0, .ref h70, .int 0, .ref h71, .ref h72, .int 0, .ref h73, .ref h74, .ref h75, .ref h76, .long 0, .int 0, .ref h77, .ref h78, .ref h79, .ref h80, .ref h81, .ref h82, .ref h83, .ref h84, .ref h85, .ref h86, .ref h87, .ref h88, .ref h89, .ref h90, .ref h91, .int 0, .ref h92, .ref h93, .ref h94, .int 0])), (h48, .inl (k0, 4, .inl (upd (fun _ => 0) 0 1))), (h49, .inl (k1, 4, .inl (upd (fun _ => 0) 0 0))), (h50, .inl (k2, 400, .inl (fun _ => 0)))] H_10 := hP_10
          have hD_10 : va_D A [(h0, .inr (15, [.int 0, .int 0, .ref h1, .int 0, .int (-1), .ref h2, .ref h3, .ref h4, .ref h5, .ref h6, .ref h7, .ref h8, .ref h9, .ref h10, .ref h11, .ref h12, .ref h13, .ref h14, .ref h15, .ref h16, .ref h17, .ref h18, .ref h19, .ref h20, .ref h21, .ref h22, .ref h23, .ref h24, .ref h25, .ref h26, .ref h27, .int 0, .ref h28, .ref h29, .int 0, .int 0, .int 0, .int 0, .int 0, .int 0, .ref h30, .int 0, .ref h31, .ref h32, .ref h33, .ref h34, .ref h35, .ref h36, .ref h37, .ref h38, .int 0, .int 0, .int 0, .int 0, .ref h39, .ref h40, .ref h41, .int 0, .ref h42, .int 0, .ref h43, .int 0, .int 0, .ref h44, .ref h45, .ref h46, .int 0, .ref h47, .ref h48, .ref h49, .ref h50, .ref h51, .ref h52, .ref h53, .int 0, .ref h54, .int 0, .ref h55, .ref h56, .ref h57, .int 0, .ref h58, .ref h59, .ref h60, .ref h61, .int 0, .ref h62, .ref h63, .ref h64, .ref h65, .int 0, .int 0, .int 0, .int 0, .int 0, .int 0, .int 0, .int 0, .int 0, .ref h66, .int 0, .ref h67, .int 0, .int 0, .int 0, .int 0, .int 0, .ref h68, .int 0, .int 0, .ref h69, .int 0, .ref h70, .int 0, .ref h71, .ref h72, .int 0, .ref h73, .ref h74, .ref h75, .ref h76, .long 0, .int 0, .ref h77, .ref h78, .ref h79, .ref h80, .ref h81, .ref h82, .ref h83, .ref h84, .ref h85, .ref h86, .ref h87, .ref h88, .ref h89, .ref h90, .ref h91, .int 0, .ref h92, .ref h93, .ref h94, .int 0])), (h48, .inl (k0, 4, .inl (upd (fun _ => 0) 0 1))), (h49, .inl (k1, 4, .inl (upd (fun _ => 0) 0 0))), (h50, .inl (k2, 400, .inl (fun _ => 0)))] := hD_10
          clear hP_9 hD_9 hS_9
          refine lv_iload hx hb dX12_put__149 (lv_at hl_6 1 rfl) ?_
          refine lv_iload_n hx hb dX12_put__151 rfl (lv_at hl_6 4 rfl) ?_
          refine lv_iadd hx hb dX12_put__152 ?_
          refine lv_topi (fun x_11 ex_11 => ?_)
          obtain rfl : x_11 = 0 := ex_11.trans (by decide)
          have hP9 := hP_10.sub (ws' := []) [] rfl
          have hD9 := hD_10.sub (ws' := []) [] (by decide) rfl
          have hK9 := hK_3.sub (tys' := []) [] rfl
          refine W.widen (k := 0) (n := 0) (by decide) (by decide) ?_
          exact W.iret (v := 0) hx hb hr (fun t9 ht9 hW9 => ⟨⟨0, 4, rfl, (Or.inr (Or.inr (Or.inr (Or.inr ⟨rfl, rfl, cc_2_0, cc_2_1, cc_3_0, cc_3_1⟩)))), ⟨by rw [ht9]; exact hP9, va_K.moved hW9.alike hK9, hD9⟩⟩, hS_10.F ht9⟩) hS_10.2.2 dX12_put__153
        · refine va_zald hx hb hK_3 hP_3 1 0 rfl rfl (i := 1) (vpi (by decide)) dX12_put__34 ?_
          refine W.eq (g2 := F0 m 35 ls [.int 0]) rfl ?_
          refine lv_if_eq (tgt := 47) hx hb dX12_put__35 (by decide) (fun _ => ?_) (fun c_ => absurd (by decide) c_)
          refine lv_iconst (v := 0) hx hb dX12_put__47 (by decide) ?_
          refine lv_istore (lv' := [(5, .int 0), (0, .ref h0), (1, .int 1), (2, .int 0), (3, .long w0)]) hx hb dX12_put__48 hl (by decide) rfl (fun ls_12 hl_12 => ?_)
          clear hl
          refine lv_iload hx hb dX12_put__50 (lv_at hl_12 0 rfl) ?_
          refine lv_iload_n hx hb dX12_put__52 rfl (lv_at hl_12 3 rfl) ?_
          refine lv_iadd hx hb dX12_put__53 ?_
          refine lv_topi (fun x_13 ex_13 => ?_)
          obtain rfl : x_13 = 0 := ex_13.trans (by decide)
          refine lv_bipush (v := 100) hx hb dX12_put__54 (by decide) ?_
          refine lv_icmp_le (tgt := 62) hx hb dX12_put__56 (by decide) (fun _ => ?_) (fun c_ => absurd (by decide) c_)
          refine lv_iconst (v := 0) hx hb dX12_put__62 (by decide) ?_
          refine lv_istore (lv' := [(6, .int 0), (5, .int 0), (0, .ref h0), (1, .int 1), (2, .int 0), (3, .long w0)]) hx hb dX12_put__63 hl_12 (by decide) rfl (fun ls_14 hl_14 => ?_)
          clear hl_12
          refine lv_iload hx hb dX12_put__65 (lv_at hl_14 0 rfl) ?_
          refine lv_iload_n hx hb dX12_put__67 rfl (lv_at hl_14 4 rfl) ?_
          refine lv_icmp_ge (tgt := 108) hx hb dX12_put__68 (by decide) (fun _ => ?_) (fun c_ => absurd (by decide) c_)
          refine lv_aload_n hx hb dX12_put__108 rfl (lv_at hl_14 2 rfl) ?_
          refine va_get (D := (dC, dI)) (ci := 15) (v := .ref h48) (C := RX12) (T := TX12) (N := 143) hx hb ht inX12 hown hK_3 hP_3 0 rfl rfl 68 (by decide) (ht _ tw_2208) (fun _ h9 => h9) rfl dX12_put__109 ?_
          refine lv_iload_n hx hb dX12_put__112 rfl (lv_at hl_14 3 rfl) ?_
          refine lv_iconst (v := 1) hx hb dX12_put__113 (by decide) ?_
          refine va_zast hx hb hK_3 hP_3 hD_3 hS_3 1 0 rfl rfl (i := 1) (vpi (by decide)) dX12_put__114 (fun H_15 locs_15 hP_15 hD_15 hS_15 => ?_)
          have hP_15 : va_P (dC, dI) vwCl [(h0, .inr (15, [.int 0, .int 0, .ref h1, .int 0, .int (-1), .ref h2, .ref h3, .ref h4, .ref h5, .ref h6, .ref h7, .ref h8, .ref h9, .ref h10, .ref h11, .ref h12, .ref h13, .ref h14, .ref h15, .ref h16, .ref h17, .ref h18, .ref h19, .ref h20, .ref h21, .ref h22, .ref h23, .ref h24, .ref h25, .ref h26, .ref h27, .int 0, .ref h28, .ref h29, .int 0, .int 0, .int 0, .int 0, .int 0, .int 0, .ref h30, .int 0, .ref h31, .ref h32, .ref h33, .ref h34, .ref h35, .ref h36, .ref h37, .ref h38, .int 0, .int 0, .int 0, .int 0, .ref h39, .ref h40, .ref h41, .int 0, .ref h42, .int 0, .ref h43, .int 0, .int 0, .ref h44, .ref h45, .ref h46, .int 0, .ref h47, .ref h48, .ref h49, .ref h50, .ref h51, .ref h52, .ref h53, .int 0, .ref h54, .int 0, .ref h55, .ref h56, .ref h57, .int 0, .ref h58, .ref h59, .ref h60, .ref h61, .int 0, .ref h62, .ref h63, .ref h64, .ref h65, .int 0, .int 0, .int 0, .int 0, .int 0, .int 0, .int 0, .int 0, .int 0, .ref h66, .int 0, .ref h67, .int 0, .int 0, .int 0, .int 0, .int 0, .ref h68, .int 0, .int 0, .ref h69, .int 0, .ref h70, .int 0, .ref h71, .ref h72, .int 0, .ref h73, .ref h74, .ref h75, .ref h76, .long 0, .int 0, .ref h77, .ref h78, .ref h79, .ref h80, .ref h81, .ref h82, .ref h83, .ref h84, .ref h85, .ref h86, .ref h87, .ref h88, .ref h89, .ref h90, .ref h91, .int 0, .ref h92, .ref h93, .ref h94, .int 0])), (h48, .inl (k0, 4, .inl (upd (fun _ => 0) 1 1))), (h49, .inl (k1, 4, .inl (fun _ => 0))), (h50, .inl (k2, 400, .inl (fun _ => 0)))] H_15 := hP_15
          have hD_15 : va_D A [(h0, .inr (15, [.int 0, .int 0, .ref h1, .int 0, .int (-1), .ref h2, .ref h3, .ref h4, .ref h5, .ref h6, .ref h7, .ref h8, .ref h9, .ref h10, .ref h11, .ref h12, .ref h13, .ref h14, .ref h15, .ref h16, .ref h17, .ref h18, .ref h19, .ref h20, .ref h21, .ref h22, .ref h23, .ref h24, .ref h25, .ref h26, .ref h27, .int 0, .ref h28, .ref h29, .int 0, .int 0, .int 0, .int 0, .int 0, .int 0, .ref h30, .int 0, .ref h31, .ref h32, .ref h33, .ref h34, .ref h35, .ref h36, .ref h37, .ref h38, .int 0, .int 0, .int 0, .int 0, .ref h39, .ref h40, .ref h41, .int 0, .ref h42, .int 0, .ref h43, .int 0, .int 0, .ref h44, .ref h45, .ref h46, .int 0, .ref h47, .ref h48, .ref h49, .ref h50, .ref h51, .ref h52, .ref h53, .int 0, .ref h54, .int 0, .ref h55, .ref h56, .ref h57, .int 0, .ref h58, .ref h59, .ref h60, .ref h61, .int 0, .ref h62, .ref h63, .ref h64, .ref h65, .int 0, .int 0, .int 0, .int 0, .int 0, .int 0, .int 0, .int 0, .int 0, .ref h66, .int 0, .ref h67, .int 0, .int 0, .int 0, .int 0, .int 0, .ref h68, .int 0, .int 0, .ref h69, .int 0, .ref h70, .int 0, .ref h71, .ref h72, .int 0, .ref h73, .ref h74, .ref h75, .ref h76, .long 0, .int 0, .ref h77, .ref h78, .ref h79, .ref h80, .ref h81, .ref h82, .ref h83, .ref h84, .ref h85, .ref h86, .ref h87, .ref h88, .ref h89, .ref h90, .ref h91, .int 0, .ref h92, .ref h93, .ref h94, .int 0])), (h48, .inl (k0, 4, .inl (upd (fun _ => 0) 1 1))), (h49, .inl (k1, 4, .inl (fun _ => 0))), (h50, .inl (k2, 400, .inl (fun _ => 0)))] := hD_15
          clear hP_3 hD_3 hS_3
          refine lv_aload_n hx hb dX12_put__115 rfl (lv_at hl_14 2 rfl) ?_
          refine va_get (D := (dC, dI)) (ci := 15) (v := .ref h49) (C := RX12) (T := TX12) (N := 143) hx hb ht inX12 hown hK_3 hP_15 0 rfl rfl 69 (by decide) (ht _ tw_2209) (fun _ h9 => h9) rfl dX12_put__116 ?_
          refine lv_iload_n hx hb dX12_put__119 rfl (lv_at hl_14 3 rfl) ?_
          refine lv_iload hx hb dX12_put__120 (lv_at hl_14 1 rfl) ?_
          refine lv_iload_n hx hb dX12_put__122 rfl (lv_at hl_14 4 rfl) ?_
          refine lv_iadd hx hb dX12_put__123 ?_
          refine lv_topi (fun x_16 ex_16 => ?_)
          obtain rfl : x_16 = 0 := ex_16.trans (by decide)
          refine va_iast hx hb hK_3 hP_15 hD_15 hS_15 2 1 rfl rfl (i := 1) (vpi (by decide)) dX12_put__124 (fun H_17 locs_17 hP_17 hD_17 hS_17 => ?_)
          have hP_17 : va_P (dC, dI) vwCl [(h0, .inr (15, [.int 0, .int 0, .ref h1, .int 0, .int (-1), .ref h2, .ref h3, .ref h4, .ref h5, .ref h6, .ref h7, .ref h8, .ref h9, .ref h10, .ref h11, .ref h12, .ref h13, .ref h14, .ref h15, .ref h16, .ref h17, .ref h18, .ref h19, .ref h20, .ref h21, .ref h22, .ref h23, .ref h24, .ref h25, .ref h26, .ref h27, .int 0, .ref h28, .ref h29, .int 0, .int 0, .int 0, .int 0, .int 0, .int 0, .ref h30, .int 0, .ref h31, .ref h32, .ref h33, .ref h34, .ref h35, .ref h36, .ref h37, .ref h38, .int 0, .int 0, .int 0, .int 0, .ref h39, .ref h40, .ref h41, .int 0, .ref h42, .int 0, .ref h43, .int 0, .int 0, .ref h44, .ref h45, .ref h46, .int 0, .ref h47, .ref h48, .ref h49, .ref h50, .ref h51, .ref h52, .ref h53, .int 0, .ref h54, .int 0, .ref h55, .ref h56, .ref h57, .int 0, .ref h58, .ref h59, .ref h60, .ref h61, .int 0, .ref h62, .ref h63, .ref h64, .ref h65, .int 0, .int 0, .int 0, .int 0, .int 0, .int 0, .int 0, .int 0, .int 0, .ref h66, .int 0, .ref h67, .int 0, .int 0, .int 0, .int 0, .int 0, .ref h68, .int 0, .int 0, .ref h69, .int 0, .ref h70, .int 0, .ref h71, .ref h72, .int 0, .ref h73, .ref h74, .ref h75, .ref h76, .long 0, .int 0, .ref h77, .ref h78, .ref h79, .ref h80, .ref h81, .ref h82, .ref h83, .ref h84, .ref h85, .ref h86, .ref h87, .ref h88, .ref h89, .ref h90, .ref h91, .int 0, .ref h92, .ref h93, .ref h94, .int 0])), (h48, .inl (k0, 4, .inl (upd (fun _ => 0) 1 1))), (h49, .inl (k1, 4, .inl (upd (fun _ => 0) 1 0))), (h50, .inl (k2, 400, .inl (fun _ => 0)))] H_17 := hP_17
          have hD_17 : va_D A [(h0, .inr (15, [.int 0, .int 0, .ref h1, .int 0, .int (-1), .ref h2, .ref h3, .ref h4, .ref h5, .ref h6, .ref h7, .ref h8, .ref h9, .ref h10, .ref h11, .ref h12, .ref h13, .ref h14, .ref h15, .ref h16, .ref h17, .ref h18, .ref h19, .ref h20, .ref h21, .ref h22, .ref h23, .ref h24, .ref h25, .ref h26, .ref h27, .int 0, .ref h28, .ref h29, .int 0, .int 0, .int 0, .int 0, .int 0, .int 0, .ref h30, .int 0, .ref h31, .ref h32, .ref h33, .ref h34, .ref h35, .ref h36, .ref h37, .ref h38, .int 0, .int 0, .int 0, .int 0, .ref h39, .ref h40, .ref h41, .int 0, .ref h42, .int 0, .ref h43, .int 0, .int 0, .ref h44, .ref h45, .ref h46, .int 0, .ref h47, .ref h48, .ref h49, .ref h50, .ref h51, .ref h52, .ref h53, .int 0, .ref h54, .int 0, .ref h55, .ref h56, .ref h57, .int 0, .ref h58, .ref h59, .ref h60, .ref h61, .int 0, .ref h62, .ref h63, .ref h64, .ref h65, .int 0, .int 0, .int 0, .int 0, .int 0, .int 0, .int 0, .int 0, .int 0, .ref h66, .int 0, .ref h67, .int 0, .int 0, .int 0, .int 0, .int 0, .ref h68, .int 0, .int 0, .ref h69, .int 0, .ref h70, .int 0, .ref h71, .ref h72, .int 0, .ref h73, .ref h74, .ref h75, .ref h76, .long 0, .int 0, .ref h77, .ref h78, .ref h79, .ref h80, .ref h81, .ref h82, .ref h83, .ref h84, .ref h85, .ref h86, .ref h87, .ref h88, .ref h89, .ref h90, .ref h91, .int 0, .ref h92, .ref h93, .ref h94, .int 0])), (h48, .inl (k0, 4, .inl (upd (fun _ => 0) 1 1))), (h49, .inl (k1, 4, .inl (upd (fun _ => 0) 1 0))), (h50, .inl (k2, 400, .inl (fun _ => 0)))] := hD_17
          clear hP_15 hD_15 hS_15
          refine lv_aload_n hx hb dX12_put__125 rfl (lv_at hl_14 2 rfl) ?_
          refine lv_aload_n hx hb dX12_put__126 rfl (lv_at hl_14 2 rfl) ?_
          refine va_get (D := (dC, dI)) (ci := 15) (v := .int 0) (C := RX12) (T := TX12) (N := 143) hx hb ht inX12 hown hK_3 hP_17 0 rfl rfl 102 (by decide) (ht _ tw_2242) (fun _ h9 => h9) rfl dX12_put__127 ?_
          refine lv_if_eq (tgt := 145) hx hb dX12_put__130 (by decide) (fun _ => ?_) (fun c_ => absurd (by decide) c_)
          refine lv_iconst (v := 0) hx hb dX12_put__145 (by decide) ?_
          refine va_put (D := (dC, dI)) (ci := 15) (v := .int 0) (ty := .boolean) (C := RX12) (T := TX12) (N := 143) hx hb ht inX12 tyX12 tyX12_ok nmX12 hown hK_3 hP_17 hD_17 hS_17 0 rfl rfl 102 (by decide) (ht _ tw_2242) (fun _ h9 => h9) rfl (by decide +kernel) rfl rfl (Nat.le_of_ble_eq_true rfl) dX12_put__146 (fun H_18 locs_18 hP_18 hD_18 hS_18 => ?_)
          have hP_18 : va_P (dC, dI) vwCl [(h0, .inr (15, [.int 0, .int 0, .ref h1, .int 0, .int (-1), .ref h2, .ref h3, .ref h4, .ref h5, .ref h6, .ref h7, .ref h8, .ref h9, .ref h10, .ref h11, .ref h12, .ref h13, .ref h14, .ref h15, .ref h16, .ref h17, .ref h18, .ref h19, .ref h20, .ref h21, .ref h22, .ref h23, .ref h24, .ref h25, .ref h26, .ref h27, .int 0, .ref h28, .ref h29, .int 0, .int 0, .int 0, .int 0, .int 0, .int 0, .ref h30, .int 0, .ref h31, .ref h32, .ref h33, .ref h34, .ref h35, .ref h36, .ref h37, .ref h38, .int 0, .int 0, .int 0, .int 0, .ref h39, .ref h40, .ref h41, .int 0, .ref h42, .int 0, .ref h43, .int 0, .int 0, .ref h44, .ref h45, .ref h46, .int 0, .ref h47, .ref h48, .ref h49, .ref h50, .ref h51, .ref h52, .ref h53, .int 0, .ref h54, .int 0, .ref h55, .ref h56, .ref h57, .int 0, .ref h58, .ref h59, .ref h60, .ref h61, .int 0, .ref h62, .ref h63, .ref h64, .ref h65, .int 0, .int 0, .int 0, .int 0, .int 0, .int 0, .int 0, .int 0, .int 0, .ref h66, .int 0, .ref h67, .int 0, .int 0, .int 0, .int 0, .int 0, .ref h68, .int 0, .int 0, .ref h69, .int 0, .ref h70, .int 0, .ref h71, .ref h72, .int 0, .ref h73, .ref h74, .ref h75, .ref h76, .long 0, .int 0, .ref h77, .ref h78, .ref h79, .ref h80, .ref h81, .ref h82, .ref h83, .ref h84, .ref h85, .ref h86, .ref h87, .ref h88, .ref h89, .ref h90, .ref h91, .int 0, .ref h92, .ref h93, .ref h94, .int 0])), (h48, .inl (k0, 4, .inl (upd (fun _ => 0) 1 1))), (h49, .inl (k1, 4, .inl (upd (fun _ => 0) 1 0))), (h50, .inl (k2, 400, .inl (fun _ => 0)))] H_18 := hP_18
          have hD_18 : va_D A [(h0, .inr (15, [.int 0, .int 0, .ref h1, .int 0, .int (-1), .ref h2, .ref h3, .ref h4, .ref h5, .ref h6, .ref h7, .ref h8, .ref h9, .ref h10, .ref h11, .ref h12, .ref h13, .ref h14, .ref h15, .ref h16, .ref h17, .ref h18, .ref h19, .ref h20, .ref h21, .ref h22, .ref h23, .ref h24, .ref h25, .ref h26, .ref h27, .int 0, .ref h28, .ref h29, .int 0, .int 0, .int 0, .int 0, .int 0, .int 0, .ref h30, .int 0, .ref h31, .ref h32, .ref h33, .ref h34, .ref h35, .ref h36, .ref h37, .ref h38, .int 0, .int 0, .int 0, .int 0, .ref h39, .ref h40, .ref h41, .int 0, .ref h42, .int 0, .ref h43, .int 0, .int 0, .ref h44, .ref h45, .ref h46, .int 0, .ref h47, .ref h48, .ref h49, .ref h50, .ref h51, .ref h52, .ref h53, .int 0, .ref h54, .int 0, .ref h55, .ref h56, .ref h57, .int 0, .ref h58, .ref h59, .ref h60, .ref h61, .int 0, .ref h62, .ref h63, .ref h64, .ref h65, .int 0, .int 0, .int 0, .int 0, .int 0, .int 0, .int 0, .int 0, .int 0, .ref h66, .int 0, .ref h67, .int 0, .int 0, .int 0, .int 0, .int 0, .ref h68, .int 0, .int 0, .ref h69, .int 0, .ref h70, .int 0, .ref h71, .ref h72, .int 0, .ref h73, .ref h74, .ref h75, .ref h76, .long 0, .int 0, .ref h77, .ref h78, .ref h79, .ref h80, .ref h81, .ref h82, .ref h83, .ref h84, .ref h85, .ref h86, .ref h87, .ref h88, .ref h89, .ref h90, .ref h91, .int 0, .ref h92, .ref h93, .ref h94, .int 0])), (h48, .inl (k0, 4, .inl (upd (fun _ => 0) 1 1))), (h49, .inl (k1, 4, .inl (upd (fun _ => 0) 1 0))), (h50, .inl (k2, 400, .inl (fun _ => 0)))] := hD_18
          clear hP_17 hD_17 hS_17
          refine lv_iload hx hb dX12_put__149 (lv_at hl_14 1 rfl) ?_
          refine lv_iload_n hx hb dX12_put__151 rfl (lv_at hl_14 4 rfl) ?_
          refine lv_iadd hx hb dX12_put__152 ?_
          refine lv_topi (fun x_19 ex_19 => ?_)
          obtain rfl : x_19 = 0 := ex_19.trans (by decide)
          have hP9 := hP_18.sub (ws' := []) [] rfl
          have hD9 := hD_18.sub (ws' := []) [] (by decide) rfl
          have hK9 := hK_3.sub (tys' := []) [] rfl
          refine W.widen (k := 0) (n := 0) (by decide) (by decide) ?_
          exact W.iret (v := 0) hx hb hr (fun t9 ht9 hW9 => ⟨⟨0, 4, rfl, (Or.inr (Or.inr (Or.inr (Or.inr ⟨rfl, rfl, cc_2_0, cc_2_1, cc_3_0, cc_3_1⟩)))), ⟨by rw [ht9]; exact hP9, va_K.moved hW9.alike hK9, hD9⟩⟩, hS_18.F ht9⟩) hS_18.2.2 dX12_put__153
        · refine va_zald hx hb hK_3 hP_3 1 0 rfl rfl (i := 2) (vpi (by decide)) dX12_put__34 ?_
          refine W.eq (g2 := F0 m 35 ls [.int 0]) rfl ?_
          refine lv_if_eq (tgt := 47) hx hb dX12_put__35 (by decide) (fun _ => ?_) (fun c_ => absurd (by decide) c_)
          refine lv_iconst (v := 0) hx hb dX12_put__47 (by decide) ?_
          refine lv_istore (lv' := [(5, .int 0), (0, .ref h0), (1, .int 2), (2, .int 0), (3, .long w0)]) hx hb dX12_put__48 hl (by decide) rfl (fun ls_20 hl_20 => ?_)
          clear hl
          refine lv_iload hx hb dX12_put__50 (lv_at hl_20 0 rfl) ?_
          refine lv_iload_n hx hb dX12_put__52 rfl (lv_at hl_20 3 rfl) ?_
          refine lv_iadd hx hb dX12_put__53 ?_
          refine lv_topi (fun x_21 ex_21 => ?_)
          obtain rfl : x_21 = 0 := ex_21.trans (by decide)
          refine lv_bipush (v := 100) hx hb dX12_put__54 (by decide) ?_
          refine lv_icmp_le (tgt := 62) hx hb dX12_put__56 (by decide) (fun _ => ?_) (fun c_ => absurd (by decide) c_)
          refine lv_iconst (v := 0) hx hb dX12_put__62 (by decide) ?_
          refine lv_istore (lv' := [(6, .int 0), (5, .int 0), (0, .ref h0), (1, .int 2), (2, .int 0), (3, .long w0)]) hx hb dX12_put__63 hl_20 (by decide) rfl (fun ls_22 hl_22 => ?_)
          clear hl_20
          refine lv_iload hx hb dX12_put__65 (lv_at hl_22 0 rfl) ?_
          refine lv_iload_n hx hb dX12_put__67 rfl (lv_at hl_22 4 rfl) ?_
          refine lv_icmp_ge (tgt := 108) hx hb dX12_put__68 (by decide) (fun _ => ?_) (fun c_ => absurd (by decide) c_)
          refine lv_aload_n hx hb dX12_put__108 rfl (lv_at hl_22 2 rfl) ?_
          refine va_get (D := (dC, dI)) (ci := 15) (v := .ref h48) (C := RX12) (T := TX12) (N := 143) hx hb ht inX12 hown hK_3 hP_3 0 rfl rfl 68 (by decide) (ht _ tw_2208) (fun _ h9 => h9) rfl dX12_put__109 ?_
          refine lv_iload_n hx hb dX12_put__112 rfl (lv_at hl_22 3 rfl) ?_
          refine lv_iconst (v := 1) hx hb dX12_put__113 (by decide) ?_
          refine va_zast hx hb hK_3 hP_3 hD_3 hS_3 1 0 rfl rfl (i := 2) (vpi (by decide)) dX12_put__114 (fun H_23 locs_23 hP_23 hD_23 hS_23 => ?_)
          have hP_23 : va_P (dC, dI) vwCl [(h0, .inr (15, [.int 0, .int 0, .ref h1, .int 0, .int (-1), .ref h2, .ref h3, .ref h4, .ref h5, .ref h6, .ref h7, .ref h8, .ref h9, .ref h10, .ref h11, .ref h12, .ref h13, .ref h14, .ref h15, .ref h16, .ref h17, .ref h18, .ref h19, .ref h20, .ref h21, .ref h22, .ref h23, .ref h24, .ref h25, .ref h26, .ref h27, .int 0, .ref h28, .ref h29, .int 0, .int 0, .int 0, .int 0, .int 0, .int 0, .ref h30, .int 0, .ref h31, .ref h32, .ref h33, .ref h34, .ref h35, .ref h36, .ref h37, .ref h38, .int 0, .int 0, .int 0, .int 0, .ref h39, .ref h40, .ref h41, .int 0, .ref h42, .int 0, .ref h43, .int 0, .int 0, .ref h44, .ref h45, .ref h46, .int 0, .ref h47, .ref h48, .ref h49, .ref h50, .ref h51, .ref h52, .ref h53, .int 0, .ref h54, .int 0, .ref h55, .ref h56, .ref h57, .int 0, .ref h58, .ref h59, .ref h60, .ref h61, .int 0, .ref h62, .ref h63, .ref h64, .ref h65, .int 0, .int 0, .int 0, .int 0, .int 0, .int 0, .int 0, .int 0, .int 0, .ref h66, .int 0, .ref h67, .int 0, .int 0, .int 0, .int 0, .int 0, .ref h68, .int 0, .int 0, .ref h69, .int 0, .ref h70, .int 0, .ref h71, .ref h72, .int 0, .ref h73, .ref h74, .ref h75, .ref h76, .long 0, .int 0, .ref h77, .ref h78, .ref h79, .ref h80, .ref h81, .ref h82, .ref h83, .ref h84, .ref h85, .ref h86, .ref h87, .ref h88, .ref h89, .ref h90, .ref h91, .int 0, .ref h92, .ref h93, .ref h94, .int 0])), (h48, .inl (k0, 4, .inl (upd (fun _ => 0) 2 1))), (h49, .inl (k1, 4, .inl (fun _ => 0))), (h50, .inl (k2, 400, .inl (fun _ => 0)))] H_23 := hP_23
          have hD_23 : va_D A [(h0, .inr (15, [.int 0, .int 0, .ref h1, .int 0, .int (-1), .ref h2, .ref h3, .ref h4, .ref h5, .ref h6, .ref h7, .ref h8, .ref h9, .ref h10, .ref h11, .ref h12, .ref h13, .ref h14, .ref h15, .ref h16, .ref h17, .ref h18, .ref h19, .ref h20, .ref h21, .ref h22, .ref h23, .ref h24, .ref h25, .ref h26, .ref h27, .int 0, .ref h28, .ref h29, .int 0, .int 0, .int 0, .int 0, .int 0, .int 0, .ref h30, .int 0, .ref h31, .ref h32, .ref h33, .ref h34, .ref h35, .ref h36, .ref h37, .ref h38, .int 0, .int 0, .int 0, .int 0, .ref h39, .ref h40, .ref h41, .int 0, .ref h42, .int 0, .ref h43, .int 0, .int 0, .ref h44, .ref h45, .ref h46, .int 0, .ref h47, .ref h48, .ref h49, .ref h50, .ref h51, .ref h52, .ref h53, .int 0, .ref h54, .int 0, .ref h55, .ref h56, .ref h57, .int 0, .ref h58, .ref h59, .ref h60, .ref h61, .int 0, .ref h62, .ref h63, .ref h64, .ref h65, .int 0, .int 0, .int 0, .int 0, .int 0, .int 0, .int 0, .int 0, .int 0, .ref h66, .int 0, .ref h67, .int 0, .int 0, .int 0, .int 0, .int 0, .ref h68, .int 0, .int 0, .ref h69, .int 0, .ref h70, .int 0, .ref h71, .ref h72, .int 0, .ref h73, .ref h74, .ref h75, .ref h76, .long 0, .int 0, .ref h77, .ref h78, .ref h79, .ref h80, .ref h81, .ref h82, .ref h83, .ref h84, .ref h85, .ref h86, .ref h87, .ref h88, .ref h89, .ref h90, .ref h91, .int 0, .ref h92, .ref h93, .ref h94, .int 0])), (h48, .inl (k0, 4, .inl (upd (fun _ => 0) 2 1))), (h49, .inl (k1, 4, .inl (fun _ => 0))), (h50, .inl (k2, 400, .inl (fun _ => 0)))] := hD_23
          clear hP_3 hD_3 hS_3
          refine lv_aload_n hx hb dX12_put__115 rfl (lv_at hl_22 2 rfl) ?_
          refine va_get (D := (dC, dI)) (ci := 15) (v := .ref h49) (C := RX12) (T := TX12) (N := 143) hx hb ht inX12 hown hK_3 hP_23 0 rfl rfl 69 (by decide) (ht _ tw_2209) (fun _ h9 => h9) rfl dX12_put__116 ?_
          refine lv_iload_n hx hb dX12_put__119 rfl (lv_at hl_22 3 rfl) ?_
          refine lv_iload hx hb dX12_put__120 (lv_at hl_22 1 rfl) ?_
          refine lv_iload_n hx hb dX12_put__122 rfl (lv_at hl_22 4 rfl) ?_
          refine lv_iadd hx hb dX12_put__123 ?_
          refine lv_topi (fun x_24 ex_24 => ?_)
          obtain rfl : x_24 = 0 := ex_24.trans (by decide)
          refine va_iast hx hb hK_3 hP_23 hD_23 hS_23 2 1 rfl rfl (i := 2) (vpi (by decide)) dX12_put__124 (fun H_25 locs_25 hP_25 hD_25 hS_25 => ?_)
          have hP_25 : va_P (dC, dI) vwCl [(h0, .inr (15, [.int 0, .int 0, .ref h1, .int 0, .int (-1), .ref h2, .ref h3, .ref h4, .ref h5, .ref h6, .ref h7, .ref h8, .ref h9, .ref h10, .ref h11, .ref h12, .ref h13, .ref h14, .ref h15, .ref h16, .ref h17, .ref h18, .ref h19, .ref h20, .ref h21, .ref h22, .ref h23, .ref h24, .ref h25, .ref h26, .ref h27, .int 0, .ref h28, .ref h29, .int 0, .int 0, .int 0, .int 0, .int 0, .int 0, .ref h30, .int 0, .ref h31, .ref h32, .ref h33, .ref h34, .ref h35, .ref h36, .ref h37, .ref h38, .int 0, .int 0, .int 0, .int 0, .ref h39, .ref h40, .ref h41, .int 0, .ref h42, .int 0, .ref h43, .int 0, .int 0, .ref h44, .ref h45, .ref h46, .int 0, .ref h47, .ref h48, .ref h49, .ref h50, .ref h51, .ref h52, .ref h53, .int 0, .ref h54, .int 0, .ref h55, .ref h56, .ref h57, .int 0, .ref h58, .ref h59, .ref h60, .ref h61, .int 0, .ref h62, .ref h63, .ref h64, .ref h65, .int 0, .int 0, .int 0, .int 0, .int 0, .int 0, .int 0, .int 0, .int 0, .ref h66, .int 0, .ref h67, .int 0, .int 0, .int 0, .int 0, .int 0, .ref h68, .int 0, .int 0, .ref h69, .int 0, .ref h70, .int 0, .ref h71, .ref h72, .int 0, .ref h73, .ref h74, .ref h75, .ref h76, .long 0, .int 0, .ref h77, .ref h78, .ref h79, .ref h80, .ref h81, .ref h82, .ref h83, .ref h84, .ref h85, .ref h86, .ref h87, .ref h88, .ref h89, .ref h90, .ref h91, .int 0, .ref h92, .ref h93, .ref h94, .int 0])), (h48, .inl (k0, 4, .inl (upd (fun _ => 0) 2 1))), (h49, .inl (k1, 4, .inl (upd (fun _ => 0) 2 0))), (h50, .inl (k2, 400, .inl (fun _ => 0)))] H_25 := hP_25
          have hD_25 : va_D A [(h0, .inr (15, [.int 0, .int 0, .ref h1, .int 0, .int (-1), .ref h2, .ref h3, .ref h4, .ref h5, .ref h6, .ref h7, .ref h8, .ref h9, .ref h10, .ref h11, .ref h12, .ref h13, .ref h14, .ref h15, .ref h16, .ref h17, .ref h18, .ref h19, .ref h20, .ref h21, .ref h22, .ref h23, .ref h24, .ref h25, .ref h26, .ref h27, .int 0, .ref h28, .ref h29, .int 0, .int 0, .int 0, .int 0, .int 0, .int 0, .ref h30, .int 0, .ref h31, .ref h32, .ref h33, .ref h34, .ref h35, .ref h36, .ref h37, .ref h38, .int 0, .int 0, .int 0, .int 0, .ref h39, .ref h40, .ref h41, .int 0, .ref h42, .int 0, .ref h43, .int 0, .int 0, .ref h44, .ref h45, .ref h46, .int 0, .ref h47, .ref h48, .ref h49, .ref h50, .ref h51, .ref h52, .ref h53, .int 0, .ref h54, .int 0, .ref h55, .ref h56, .ref h57, .int 0, .ref h58, .ref h59, .ref h60, .ref h61, .int 0, .ref h62, .ref h63, .ref h64, .ref h65, .int 0, .int 0, .int 0, .int 0, .int 0, .int 0, .int 0, .int 0, .int 0, .ref h66, .int 0, .ref h67, .int 0, .int 0, .int 0, .int 0, .int 0, .ref h68, .int 0, .int 0, .ref h69, .int 0, .ref h70, .int 0, .ref h71, .ref h72, .int 0, .ref h73, .ref h74, .ref h75, .ref h76, .long 0, .int 0, .ref h77, .ref h78, .ref h79, .ref h80, .ref h81, .ref h82, .ref h83, .ref h84, .ref h85, .ref h86, .ref h87, .ref h88, .ref h89, .ref h90, .ref h91, .int 0, .ref h92, .ref h93, .ref h94, .int 0])), (h48, .inl (k0, 4, .inl (upd (fun _ => 0) 2 1))), (h49, .inl (k1, 4, .inl (upd (fun _ => 0) 2 0))), (h50, .inl (k2, 400, .inl (fun _ => 0)))] := hD_25
          clear hP_23 hD_23 hS_23
          refine lv_aload_n hx hb dX12_put__125 rfl (lv_at hl_22 2 rfl) ?_
          refine lv_aload_n hx hb dX12_put__126 rfl (lv_at hl_22 2 rfl) ?_
          refine va_get (D := (dC, dI)) (ci := 15) (v := .int 0) (C := RX12) (T := TX12) (N := 143) hx hb ht inX12 hown hK_3 hP_25 0 rfl rfl 102 (by decide) (ht _ tw_2242) (fun _ h9 => h9) rfl dX12_put__127 ?_
          refine lv_if_eq (tgt := 145) hx hb dX12_put__130 (by decide) (fun _ => ?_) (fun c_ => absurd (by decide) c_)
          refine lv_iconst (v := 0) hx hb dX12_put__145 (by decide) ?_
          refine va_put (D := (dC, dI)) (ci := 15) (v := .int 0) (ty := .boolean) (C := RX12) (T := TX12) (N := 143) hx hb ht inX12 tyX12 tyX12_ok nmX12 hown hK_3 hP_25 hD_25 hS_25 0 rfl rfl 102 (by decide) (ht _ tw_2242) (fun _ h9 => h9) rfl (by decide +kernel) rfl rfl (Nat.le_of_ble_eq_true rfl) dX12_put__146 (fun H_26 locs_26 hP_26 hD_26 hS_26 => ?_)
          have hP_26 : va_P (dC, dI) vwCl [(h0, .inr (15, [.int 0, .int 0, .ref h1, .int 0, .int (-1), .ref h2, .ref h3, .ref h4, .ref h5, .ref h6, .ref h7, .ref h8, .ref h9, .ref h10, .ref h11, .ref h12, .ref h13, .ref h14, .ref h15, .ref h16, .ref h17, .ref h18, .ref h19, .ref h20, .ref h21, .ref h22, .ref h23, .ref h24, .ref h25, .ref h26, .ref h27, .int 0, .ref h28, .ref h29, .int 0, .int 0, .int 0, .int 0, .int 0, .int 0, .ref h30, .int 0, .ref h31, .ref h32, .ref h33, .ref h34, .ref h35, .ref h36, .ref h37, .ref h38, .int 0, .int 0, .int 0, .int 0, .ref h39, .ref h40, .ref h41, .int 0, .ref h42, .int 0, .ref h43, .int 0, .int 0, .ref h44, .ref h45, .ref h46, .int 0, .ref h47, .ref h48, .ref h49, .ref h50, .ref h51, .ref h52, .ref h53, .int 0, .ref h54, .int 0, .ref h55, .ref h56, .ref h57, .int 0, .ref h58, .ref h59, .ref h60, .ref h61, .int 0, .ref h62, .ref h63, .ref h64, .ref h65, .int 0, .int 0, .int 0, .int 0, .int 0, .int 0, .int 0, .int 0, .int 0, .ref h66, .int 0, .ref h67, .int 0, .int 0, .int 0, .int 0, .int 0, .ref h68, .int 0, .int 0, .ref h69, .int 0, .ref h70, .int 0, .ref h71, .ref h72, .int 0, .ref h73, .ref h74, .ref h75, .ref h76, .long 0, .int 0, .ref h77, .ref h78, .ref h79, .ref h80, .ref h81, .ref h82, .ref h83, .ref h84, .ref h85, .ref h86, .ref h87, .ref h88, .ref h89, .ref h90, .ref h91, .int 0, .ref h92, .ref h93, .ref h94, .int 0])), (h48, .inl (k0, 4, .inl (upd (fun _ => 0) 2 1))), (h49, .inl (k1, 4, .inl (upd (fun _ => 0) 2 0))), (h50, .inl (k2, 400, .inl (fun _ => 0)))] H_26 := hP_26
          have hD_26 : va_D A [(h0, .inr (15, [.int 0, .int 0, .ref h1, .int 0, .int (-1), .ref h2, .ref h3, .ref h4, .ref h5, .ref h6, .ref h7, .ref h8, .ref h9, .ref h10, .ref h11, .ref h12, .ref h13, .ref h14, .ref h15, .ref h16, .ref h17, .ref h18, .ref h19, .ref h20, .ref h21, .ref h22, .ref h23, .ref h24, .ref h25, .ref h26, .ref h27, .int 0, .ref h28, .ref h29, .int 0, .int 0, .int 0, .int 0, .int 0, .int 0, .ref h30, .int 0, .ref h31, .ref h32, .ref h33, .ref h34, .ref h35, .ref h36, .ref h37, .ref h38, .int 0, .int 0, .int 0, .int 0, .ref h39, .ref h40, .ref h41, .int 0, .ref h42, .int 0, .ref h43, .int 0, .int 0, .ref h44, .ref h45, .ref h46, .int 0, .ref h47, .ref h48, .ref h49, .ref h50, .ref h51, .ref h52, .ref h53, .int 0, .ref h54, .int 0, .ref h55, .ref h56, .ref h57, .int 0, .ref h58, .ref h59, .ref h60, .ref h61, .int 0, .ref h62, .ref h63, .ref h64, .ref h65, .int 0, .int 0, .int 0, .int 0, .int 0, .int 0, .int 0, .int 0, .int 0, .ref h66, .int 0, .ref h67, .int 0, .int 0, .int 0, .int 0, .int 0, .ref h68, .int 0, .int 0, .ref h69, .int 0, .ref h70, .int 0, .ref h71, .ref h72, .int 0, .ref h73, .ref h74, .ref h75, .ref h76, .long 0, .int 0, .ref h77, .ref h78, .ref h79, .ref h80, .ref h81, .ref h82, .ref h83, .ref h84, .ref h85, .ref h86, .ref h87, .ref h88, .ref h89, .ref h90, .ref h91, .int 0, .ref h92, .ref h93, .ref h94, .int 0])), (h48, .inl (k0, 4, .inl (upd (fun _ => 0) 2 1))), (h49, .inl (k1, 4, .inl (upd (fun _ => 0) 2 0))), (h50, .inl (k2, 400, .inl (fun _ => 0)))] := hD_26
          clear hP_25 hD_25 hS_25
          refine lv_iload hx hb dX12_put__149 (lv_at hl_22 1 rfl) ?_
          refine lv_iload_n hx hb dX12_put__151 rfl (lv_at hl_22 4 rfl) ?_
          refine lv_iadd hx hb dX12_put__152 ?_
          refine lv_topi (fun x_27 ex_27 => ?_)
          obtain rfl : x_27 = 0 := ex_27.trans (by decide)
          have hP9 := hP_26.sub (ws' := []) [] rfl
          have hD9 := hD_26.sub (ws' := []) [] (by decide) rfl
          have hK9 := hK_3.sub (tys' := []) [] rfl
          refine W.widen (k := 0) (n := 0) (by decide) (by decide) ?_
          exact W.iret (v := 0) hx hb hr (fun t9 ht9 hW9 => ⟨⟨0, 4, rfl, (Or.inr (Or.inr (Or.inr (Or.inr ⟨rfl, rfl, cc_2_0, cc_2_1, cc_3_0, cc_3_1⟩)))), ⟨by rw [ht9]; exact hP9, va_K.moved hW9.alike hK9, hD9⟩⟩, hS_26.F ht9⟩) hS_26.2.2 dX12_put__153
        · refine va_zald hx hb hK_3 hP_3 1 0 rfl rfl (i := 3) (vpi (by decide)) dX12_put__34 ?_
          refine W.eq (g2 := F0 m 35 ls [.int 0]) rfl ?_
          refine lv_if_eq (tgt := 47) hx hb dX12_put__35 (by decide) (fun _ => ?_) (fun c_ => absurd (by decide) c_)
          refine lv_iconst (v := 0) hx hb dX12_put__47 (by decide) ?_
          refine lv_istore (lv' := [(5, .int 0), (0, .ref h0), (1, .int 3), (2, .int 0), (3, .long w0)]) hx hb dX12_put__48 hl (by decide) rfl (fun ls_28 hl_28 => ?_)
          clear hl
          refine lv_iload hx hb dX12_put__50 (lv_at hl_28 0 rfl) ?_
          refine lv_iload_n hx hb dX12_put__52 rfl (lv_at hl_28 3 rfl) ?_
          refine lv_iadd hx hb dX12_put__53 ?_
          refine lv_topi (fun x_29 ex_29 => ?_)
          obtain rfl : x_29 = 0 := ex_29.trans (by decide)
          refine lv_bipush (v := 100) hx hb dX12_put__54 (by decide) ?_
          refine lv_icmp_le (tgt := 62) hx hb dX12_put__56 (by decide) (fun _ => ?_) (fun c_ => absurd (by decide) c_)
          refine lv_iconst (v := 0) hx hb dX12_put__62 (by decide) ?_
          refine lv_istore (lv' := [(6, .int 0), (5, .int 0), (0, .ref h0), (1, .int 3), (2, .int 0), (3, .long w0)]) hx hb dX12_put__63 hl_28 (by decide) rfl (fun ls_30 hl_30 => ?_)
          clear hl_28
          refine lv_iload hx hb dX12_put__65 (lv_at hl_30 0 rfl) ?_
          refine lv_iload_n hx hb dX12_put__67 rfl (lv_at hl_30 4 rfl) ?_
          refine lv_icmp_ge (tgt := 108) hx hb dX12_put__68 (by decide) (fun _ => ?_) (fun c_ => absurd (by decide) c_)
          refine lv_aload_n hx hb dX12_put__108 rfl (lv_at hl_30 2 rfl) ?_
          refine va_get (D := (dC, dI)) (ci := 15) (v := .ref h48) (C := RX12) (T := TX12) (N := 143) hx hb ht inX12 hown hK_3 hP_3 0 rfl rfl 68 (by decide) (ht _ tw_2208) (fun _ h9 => h9) rfl dX12_put__109 ?_
          refine lv_iload_n hx hb dX12_put__112 rfl (lv_at hl_30 3 rfl) ?_
          refine lv_iconst (v := 1) hx hb dX12_put__113 (by decide) ?_
          refine va_zast hx hb hK_3 hP_3 hD_3 hS_3 1 0 rfl rfl (i := 3) (vpi (by decide)) dX12_put__114 (fun H_31 locs_31 hP_31 hD_31 hS_31 => ?_)
          have hP_31 : va_P (dC, dI) vwCl [(h0, .inr (15, [.int 0, .int 0, .ref h1, .int 0, .int (-1), .ref h2, .ref h3, .ref h4, .ref h5, .ref h6, .ref h7, .ref h8, .ref h9, .ref h10, .ref h11, .ref h12, .ref h13, .ref h14, .ref h15, .ref h16, .ref h17, .ref h18, .ref h19, .ref h20, .ref h21, .ref h22, .ref h23, .ref h24, .ref h25, .ref h26, .ref h27, .int 0, .ref h28, .ref h29, .int 0, .int 0, .int 0, .int 0, .int 0, .int 0, .ref h30, .int 0, .ref h31, .ref h32, .ref h33, .ref h34, .ref h35, .ref h36, .ref h37, .ref h38, .int 0, .int 0, .int 0, .int 0, .ref h39, .ref h40, .ref h41, .int 0, .ref h42, .int 0, .ref h43, .int 0, .int 0, .ref h44, .ref h45, .ref h46, .int 0, .ref h47, .ref h48, .ref h49, .ref h50, .ref h51, .ref h52, .ref h53, .int 0, .ref h54, .int 0, .ref h55, .ref h56, .ref h57, .int 0, .ref h58, .ref h59, .ref h60, .ref h61, .int 0, .ref h62, .ref h63, .ref h64, .ref h65, .int 0, .int 0, .int 0, .int 0, .int 0, .int 0, .int 0, .int 0, .int 0, .ref h66, .int 0, .ref h67, .int 0, .int 0, .int 0, .int 0, .int 0, .ref h68, .int 0, .int 0, .ref h69, .int 0, .ref h70, .int 0, .ref h71, .ref h72, .int 0, .ref h73, .ref h74, .ref h75, .ref h76, .long 0, .int 0, .ref h77, .ref h78, .ref h79, .ref h80, .ref h81, .ref h82, .ref h83, .ref h84, .ref h85, .ref h86, .ref h87, .ref h88, .ref h89, .ref h90, .ref h91, .int 0, .ref h92, .ref h93, .ref h94, .int 0])), (h48, .inl (k0, 4, .inl (upd (fun _ => 0) 3 1))), (h49, .inl (k1, 4, .inl (fun _ => 0))), (h50, .inl (k2, 400, .inl (fun _ => 0)))] H_31 := hP_31
          have hD_31 : va_D A [(h0, .inr (15, [.int 0, .int 0, .ref h1, .int 0, .int (-1), .ref h2, .ref h3, .ref h4, .ref h5, .ref h6, .ref h7, .ref h8, .ref h9, .ref h10, .ref h11, .ref h12, .ref h13, .ref h14, .ref h15, .ref h16, .ref h17, .ref h18, .ref h19, .ref h20, .ref h21, .ref h22, .ref h23, .ref h24, .ref h25, .ref h26, .ref h27, .int 0, .ref h28, .ref h29, .int 0, .int 0, .int 0, .int 0, .int 0, .int 0, .ref h30, .int 0, .ref h31, .ref h32, .ref h33, .ref h34, .ref h35, .ref h36, .ref h37, .ref h38, .int 0, .int 0, .int 0, .int 0, .ref h39, .ref h40, .ref h41, .int 0, .ref h42, .int 0, .ref h43, .int 0, .int 0, .ref h44, .ref h45, .ref h46, .int 0, .ref h47, .ref h48, .ref h49, .ref h50, .ref h51, .ref h52, .ref h53, .int 0, .ref h54, .int 0, .ref h55, .ref h56, .ref h57, .int 0, .ref h58, .ref h59, .ref h60, .ref h61, .int 0, .ref h62, .ref h63, .ref h64, .ref h65, .int 0, .int 0, .int 0, .int 0, .int 0, .int 0, .int 0, .int 0, .int 0, .ref h66, .int 0, .ref h67, .int 0, .int 0, .int 0, .int 0, .int 0, .ref h68, .int 0, .int 0, .ref h69, .int 0, .ref h70, .int 0, .ref h71, .ref h72, .int 0, .ref h73, .ref h74, .ref h75, .ref h76, .long 0, .int 0, .ref h77, .ref h78, .ref h79, .ref h80, .ref h81, .ref h82, .ref h83, .ref h84, .ref h85, .ref h86, .ref h87, .ref h88, .ref h89, .ref h90, .ref h91, .int 0, .ref h92, .ref h93, .ref h94, .int 0])), (h48, .inl (k0, 4, .inl (upd (fun _ => 0) 3 1))), (h49, .inl (k1, 4, .inl (fun _ => 0))), (h50, .inl (k2, 400, .inl (fun _ => 0)))] := hD_31
          clear hP_3 hD_3 hS_3
          refine lv_aload_n hx hb dX12_put__115 rfl (lv_at hl_30 2 rfl) ?_
          refine va_get (D := (dC, dI)) (ci := 15) (v := .ref h49) (C := RX12) (T := TX12) (N := 143) hx hb ht inX12 hown hK_3 hP_31 0 rfl rfl 69 (by decide) (ht _ tw_2209) (fun _ h9 => h9) rfl dX12_put__116 ?_
          refine lv_iload_n hx hb dX12_put__119 rfl (lv_at hl_30 3 rfl) ?_
          refine lv_iload hx hb dX12_put__120 (lv_at hl_30 1 rfl) ?_
          refine lv_iload_n hx hb dX12_put__122 rfl (lv_at hl_30 4 rfl) ?_
          refine lv_iadd hx hb dX12_put__123 ?_
          refine lv_topi (fun x_32 ex_32 => ?_)
          obtain rfl : x_32 = 0 := ex_32.trans (by decide)
          refine va_iast hx hb hK_3 hP_31 hD_31 hS_31 2 1 rfl rfl (i := 3) (vpi (by decide)) dX12_put__124 (fun H_33 locs_33 hP_33 hD_33 hS_33 => ?_)
          have hP_33 : va_P (dC, dI) vwCl [(h0, .inr (15, [.int 0, .int 0, .ref h1, .int 0, .int (-1), .ref h2, .ref h3, .ref h4, .ref h5, .ref h6, .ref h7, .ref h8, .ref h9, .ref h10, .ref h11, .ref h12, .ref h13, .ref h14, .ref h15, .ref h16, .ref h17, .ref h18, .ref h19, .ref h20, .ref h21, .ref h22, .ref h23, .ref h24, .ref h25, .ref h26, .ref h27, .int 0, .ref h28, .ref h29, .int 0, .int 0, .int 0, .int 0, .int 0, .int 0, .ref h30, .int 0, .ref h31, .ref h32, .ref h33, .ref h34, .ref h35, .ref h36, .ref h37, .ref h38, .int 0, .int 0, .int 0, .int 0, .ref h39, .ref h40, .ref h41, .int 0, .ref h42, .int 0, .ref h43, .int 0, .int 0, .ref h44, .ref h45, .ref h46, .int 0, .ref h47, .ref h48, .ref h49, .ref h50, .ref h51, .ref h52, .ref h53, .int 0, .ref h54, .int 0, .ref h55, .ref h56, .ref h57, .int 0, .ref h58, .ref h59, .ref h60, .ref h61, .int 0, .ref h62, .ref h63, .ref h64, .ref h65, .int 0, .int 0, .int 0, .int 0, .int 0, .int 0, .int 0, .int 0, .int 0, .ref h66, .int 0, .ref h67, .int 0, .int 0, .int 0, .int 0, .int 0, .ref h68, .int 0, .int 0, .ref h69, .int 0, .ref h70, .int 0, .ref h71, .ref h72, .int 0, .ref h73, .ref h74, .ref h75, .ref h76, .long 0, .int 0, .ref h77, .ref h78, .ref h79, .ref h80, .ref h81, .ref h82, .ref h83, .ref h84, .ref h85, .ref h86, .ref h87, .ref h88, .ref h89, .ref h90, .ref h91, .int 0, .ref h92, .ref h93, .ref h94, .int 0])), (h48, .inl (k0, 4, .inl (upd (fun _ => 0) 3 1))), (h49, .inl (k1, 4, .inl (upd (fun _ => 0) 3 0))), (h50, .inl (k2, 400, .inl (fun _ => 0)))] H_33 := hP_33
          have hD_33 : va_D A [(h0, .inr (15, [.int 0, .int 0, .ref h1, .int 0, .int (-1), .ref h2, .ref h3, .ref h4, .ref h5, .ref h6, .ref h7, .ref h8, .ref h9, .ref h10, .ref h11, .ref h12, .ref h13, .ref h14, .ref h15, .ref h16, .ref h17, .ref h18, .ref h19, .ref h20, .ref h21, .ref h22, .ref h23, .ref h24, .ref h25, .ref h26, .ref h27, .int 0, .ref h28, .ref h29, .int 0, .int 0, .int 0, .int 0, .int 0, .int 0, .ref h30, .int 0, .ref h31, .ref h32, .ref h33, .ref h34, .ref h35, .ref h36, .ref h37, .ref h38, .int 0, .int 0, .int 0, .int 0, .ref h39, .ref h40, .ref h41, .int 0, .ref h42, .int 0, .ref h43, .int 0, .int 0, .ref h44, .ref h45, .ref h46, .int 0, .ref h47, .ref h48, .ref h49, .ref h50, .ref h51, .ref h52, .ref h53, .int 0, .ref h54, .int 0, .ref h55, .ref h56, .ref h57, .int 0, .ref h58, .ref h59, .ref h60, .ref h61, .int 0, .ref h62, .ref h63, .ref h64, .ref h65, .int 0, .int 0, .int 0, .int 0, .int 0, .int 0, .int 0, .int 0, .int 0, .ref h66, .int 0, .ref h67, .int 0, .int 0, .int 0, .int 0, .int 0, .ref h68, .int 0, .int 0, .ref h69, .int 0, .ref h70, .int 0, .ref h71, .ref h72, .int 0, .ref h73, .ref h74, .ref h75, .ref h76, .long 0, .int 0, .ref h77, .ref h78, .ref h79, .ref h80, .ref h81, .ref h82, .ref h83, .ref h84, .ref h85, .ref h86, .ref h87, .ref h88, .ref h89, .ref h90, .ref h91, .int 0, .ref h92, .ref h93, .ref h94, .int 0])), (h48, .inl (k0, 4, .inl (upd (fun _ => 0) 3 1))), (h49, .inl (k1, 4, .inl (upd (fun _ => 0) 3 0))), (h50, .inl (k2, 400, .inl (fun _ => 0)))] := hD_33
          clear hP_31 hD_31 hS_31
          refine lv_aload_n hx hb dX12_put__125 rfl (lv_at hl_30 2 rfl) ?_
          refine lv_aload_n hx hb dX12_put__126 rfl (lv_at hl_30 2 rfl) ?_
          refine va_get (D := (dC, dI)) (ci := 15) (v := .int 0) (C := RX12) (T := TX12) (N := 143) hx hb ht inX12 hown hK_3 hP_33 0 rfl rfl 102 (by decide) (ht _ tw_2242) (fun _ h9 => h9) rfl dX12_put__127 ?_
          refine lv_if_eq (tgt := 145) hx hb dX12_put__130 (by decide) (fun _ => ?_) (fun c_ => absurd (by decide) c_)
          refine lv_iconst (v := 0) hx hb dX12_put__145 (by decide) ?_
          refine va_put (D := (dC, dI)) (ci := 15) (v := .int 0) (ty := .boolean) (C := RX12) (T := TX12) (N := 143) hx hb ht inX12 tyX12 tyX12_ok nmX12 hown hK_3 hP_33 hD_33 hS_33 0 rfl rfl 102 (by decide) (ht _ tw_2242) (fun _ h9 => h9) rfl (by decide +kernel) rfl rfl (Nat.le_of_ble_eq_true rfl) dX12_put__146 (fun H_34 locs_34 hP_34 hD_34 hS_34 => ?_)
          have hP_34 : va_P (dC, dI) vwCl [(h0, .inr (15, [.int 0, .int 0, .ref h1, .int 0, .int (-1), .ref h2, .ref h3, .ref h4, .ref h5, .ref h6, .ref h7, .ref h8, .ref h9, .ref h10, .ref h11, .ref h12, .ref h13, .ref h14, .ref h15, .ref h16, .ref h17, .ref h18, .ref h19, .ref h20, .ref h21, .ref h22, .ref h23, .ref h24, .ref h25, .ref h26, .ref h27, .int 0, .ref h28, .ref h29, .int 0, .int 0, .int 0, .int 0, .int 0, .int 0, .ref h30, .int 0, .ref h31, .ref h32, .ref h33, .ref h34, .ref h35, .ref h36, .ref h37, .ref h38, .int 0, .int 0, .int 0, .int 0, .ref h39, .ref h40, .ref h41, .int 0, .ref h42, .int 0, .ref h43, .int 0, .int 0, .ref h44, .ref h45, .ref h46, .int 0, .ref h47, .ref h48, .ref h49, .ref h50, .ref h51, .ref h52, .ref h53, .int 0, .ref h54, .int 0, .ref h55, .ref h56, .ref h57, .int 0, .ref h58, .ref h59, .ref h60, .ref h61, .int 0, .ref h62, .ref h63, .ref h64, .ref h65, .int 0, .int 0, .int 0, .int 0, .int 0, .int 0, .int 0, .int 0, .int 0, .ref h66, .int 0, .ref h67, .int 0, .int 0, .int 0, .int 0, .int 0, .ref h68, .int 0, .int 0, .ref h69, .int 0, .ref h70, .int 0, .ref h71, .ref h72, .int 0, .ref h73, .ref h74, .ref h75, .ref h76, .long 0, .int 0, .ref h77, .ref h78, .ref h79, .ref h80, .ref h81, .ref h82, .ref h83, .ref h84, .ref h85, .ref h86, .ref h87, .ref h88, .ref h89, .ref h90, .ref h91, .int 0, .ref h92, .ref h93, .ref h94, .int 0])), (h48, .inl (k0, 4, .inl (upd (fun _ => 0) 3 1))), (h49, .inl (k1, 4, .inl (upd (fun _ => 0) 3 0))), (h50, .inl (k2, 400, .inl (fun _ => 0)))] H_34 := hP_34
          have hD_34 : va_D A [(h0, .inr (15, [.int 0, .int 0, .ref h1, .int 0, .int (-1), .ref h2, .ref h3, .ref h4, .ref h5, .ref h6, .ref h7, .ref h8, .ref h9, .ref h10, .ref h11, .ref h12, .ref h13, .ref h14, .ref h15, .ref h16, .ref h17, .ref h18, .ref h19, .ref h20, .ref h21, .ref h22, .ref h23, .ref h24, .ref h25, .ref h26, .ref h27, .int 0, .ref h28, .ref h29, .int 0, .int 0, .int 0, .int 0, .int 0, .int 0, .ref h30, .int 0, .ref h31, .ref h32, .ref h33, .ref h34, .ref h35, .ref h36, .ref h37, .ref h38, .int 0, .int 0, .int 0, .int 0, .ref h39, .ref h40, .ref h41, .int 0, .ref h42, .int 0, .ref h43, .int 0, .int 0, .ref h44, .ref h45, .ref h46, .int 0, .ref h47, .ref h48, .ref h49, .ref h50, .ref h51, .ref h52, .ref h53, .int 0, .ref h54, .int 0, .ref h55, .ref h56, .ref h57, .int 0, .ref h58, .ref h59, .ref h60, .ref h61, .int 0, .ref h62, .ref h63, .ref h64, .ref h65, .int 0, .int 0, .int 0, .int 0, .int 0, .int 0, .int 0, .int 0, .int 0, .ref h66, .int 0, .ref h67, .int 0, .int 0, .int 0, .int 0, .int 0, .ref h68, .int 0, .int 0, .ref h69, .int 0, .ref h70, .int 0, .ref h71, .ref h72, .int 0, .ref h73, .ref h74, .ref h75, .ref h76, .long 0, .int 0, .ref h77, .ref h78, .ref h79, .ref h80, .ref h81, .ref h82, .ref h83, .ref h84, .ref h85, .ref h86, .ref h87, .ref h88, .ref h89, .ref h90, .ref h91, .int 0, .ref h92, .ref h93, .ref h94, .int 0])), (h48, .inl (k0, 4, .inl (upd (fun _ => 0) 3 1))), (h49, .inl (k1, 4, .inl (upd (fun _ => 0) 3 0))), (h50, .inl (k2, 400, .inl (fun _ => 0)))] := hD_34
          clear hP_33 hD_33 hS_33
          refine lv_iload hx hb dX12_put__149 (lv_at hl_30 1 rfl) ?_
          refine lv_iload_n hx hb dX12_put__151 rfl (lv_at hl_30 4 rfl) ?_
          refine lv_iadd hx hb dX12_put__152 ?_
          refine lv_topi (fun x_35 ex_35 => ?_)
          obtain rfl : x_35 = 0 := ex_35.trans (by decide)
          have hP9 := hP_34.sub (ws' := []) [] rfl
          have hD9 := hD_34.sub (ws' := []) [] (by decide) rfl
          have hK9 := hK_3.sub (tys' := []) [] rfl
          refine W.widen (k := 0) (n := 0) (by decide) (by decide) ?_
          exact W.iret (v := 0) hx hb hr (fun t9 ht9 hW9 => ⟨⟨0, 4, rfl, (Or.inr (Or.inr (Or.inr (Or.inr ⟨rfl, rfl, cc_2_0, cc_2_1, cc_3_0, cc_3_1⟩)))), ⟨by rw [ht9]; exact hP9, va_K.moved hW9.alike hK9, hD9⟩⟩, hS_34.F ht9⟩) hS_34.2.2 dX12_put__153
      · refine lv_aload_n hx hb dX12_put__29 rfl (lv_at hl 0 rfl) ?_
        refine va_get (D := (dC, dI)) (ci := 15) (v := .ref h48) (C := RX12) (T := TX12) (N := 143) hx hb ht inX12 hown hK_3 hP_3 0 rfl rfl 68 (by decide) (ht _ tw_2208) (fun _ h9 => h9) rfl dX12_put__30 ?_
        refine lv_iload_n hx hb dX12_put__33 rfl (lv_at hl 1 rfl) ?_
        rcases sp_4 cc_2_0 cc_2_1 with rfl | rfl | rfl | rfl
        · refine va_zald hx hb hK_3 hP_3 1 0 rfl rfl (i := 0) (vpi (by decide)) dX12_put__34 ?_
          refine W.eq (g2 := F0 m 35 ls [.int 0]) rfl ?_
          refine lv_if_eq (tgt := 47) hx hb dX12_put__35 (by decide) (fun _ => ?_) (fun c_ => absurd (by decide) c_)
          refine lv_iconst (v := 0) hx hb dX12_put__47 (by decide) ?_
          refine lv_istore (lv' := [(5, .int 0), (0, .ref h0), (1, .int 0), (2, .int 1), (3, .long w0)]) hx hb dX12_put__48 hl (by decide) rfl (fun ls_36 hl_36 => ?_)
          clear hl
          refine lv_iload hx hb dX12_put__50 (lv_at hl_36 0 rfl) ?_
          refine lv_iload_n hx hb dX12_put__52 rfl (lv_at hl_36 3 rfl) ?_
          refine lv_iadd hx hb dX12_put__53 ?_
          refine lv_topi (fun x_37 ex_37 => ?_)
          obtain rfl : x_37 = 1 := ex_37.trans (by decide)
          refine lv_bipush (v := 100) hx hb dX12_put__54 (by decide) ?_
          refine lv_icmp_le (tgt := 62) hx hb dX12_put__56 (by decide) (fun _ => ?_) (fun c_ => absurd (by decide) c_)
          refine lv_iconst (v := 0) hx hb dX12_put__62 (by decide) ?_
          refine lv_istore (lv' := [(6, .int 0), (5, .int 0), (0, .ref h0), (1, .int 0), (2, .int 1), (3, .long w0)]) hx hb dX12_put__63 hl_36 (by decide) rfl (fun ls_38 hl_38 => ?_)
          clear hl_36
          refine lv_iload hx hb dX12_put__65 (lv_at hl_38 0 rfl) ?_
          refine lv_iload_n hx hb dX12_put__67 rfl (lv_at hl_38 4 rfl) ?_
          refine lv_icmp_ge (tgt := 108) hx hb dX12_put__68 (by decide) (fun c_ => absurd c_ (by decide)) (fun _ => ?_)
          refine lv_aload_n hx hb dX12_put__71 rfl (lv_at hl_38 2 rfl) ?_
          refine va_get (D := (dC, dI)) (ci := 15) (v := .ref h50) (C := RX12) (T := TX12) (N := 143) hx hb ht inX12 hown hK_3 hP_3 0 rfl rfl 70 (by decide) (ht _ tw_2210) (fun _ h9 => h9) rfl dX12_put__72 ?_
          refine lv_bipush (v := 100) hx hb dX12_put__75 (by decide) ?_
          refine lv_iload_n hx hb dX12_put__77 rfl (lv_at hl_38 3 rfl) ?_
          refine lv_imul hx hb dX12_put__78 ?_
          refine lv_topi (fun x_39 ex_39 => ?_)
          obtain rfl : x_39 = 0 := ex_39.trans (by decide)
          refine lv_iload hx hb dX12_put__79 (lv_at hl_38 1 rfl) ?_
          refine lv_iadd hx hb dX12_put__81 ?_
          refine lv_topi (fun x_40 ex_40 => ?_)
          obtain rfl : x_40 = 0 := ex_40.trans (by decide)
          refine lv_iload hx hb dX12_put__82 (lv_at hl_38 0 rfl) ?_
          refine lv_iadd hx hb dX12_put__84 ?_
          refine lv_topi (fun x_41 ex_41 => ?_)
          obtain rfl : x_41 = 0 := ex_41.trans (by decide)
          refine lv_lload_n hx hb dX12_put__85 rfl (lv_at hl_38 5 rfl) ?_
          refine lv_bipush (v := 16) hx hb dX12_put__86 (by decide) ?_
          refine lv_iload_n hx hb dX12_put__88 rfl (lv_at hl_38 4 rfl) ?_
          refine lv_iconst (v := 1) hx hb dX12_put__89 (by decide) ?_
          refine lv_isub hx hb dX12_put__90 ?_
          refine lv_topi (fun x_42 ex_42 => ?_)
          obtain rfl : x_42 = 0 := ex_42.trans (by decide)
          refine lv_iload hx hb dX12_put__91 (lv_at hl_38 0 rfl) ?_
          refine lv_isub hx hb dX12_put__93 ?_
          refine lv_topi (fun x_43 ex_43 => ?_)
          obtain rfl : x_43 = 0 := ex_43.trans (by decide)
          refine lv_imul hx hb dX12_put__94 ?_
          refine lv_topi (fun x_44 ex_44 => ?_)
          obtain rfl : x_44 = 0 := ex_44.trans (by decide)
          refine lv_lshr (v := (w0 >>> ((0 : Int32).toInt64 &&& 63))) hx hb dX12_put__95 rfl ?_
          refine lv_ldc2 hx hb hown (ht _ tw_2813) dX12_put__96 ?_
          refine lv_land hx hb dX12_put__99 ?_
          refine lv_l2i (v := ((w0 >>> ((0 : Int32).toInt64 &&& 63)) &&& 65535).toInt32) hx hb dX12_put__100 rfl ?_
          refine va_iast hx hb hK_3 hP_3 hD_3 hS_3 3 2 rfl rfl (i := 0) (vpi (by decide)) dX12_put__101 (fun H_45 locs_45 hP_45 hD_45 hS_45 => ?_)
          have hP_45 : va_P (dC, dI) vwCl [(h0, .inr (15, [.int 0, .int 0, .ref h1, .int 0, .int (-1), .ref h2, .ref h3, .ref h4, .ref h5, .ref h6, .ref h7, .ref h8, .ref h9, .ref h10, .ref h11, .ref h12, .ref h13, .ref h14, .ref h15, .ref h16, .ref h17, .ref h18, .ref h19, .ref h20, .ref h21, .ref h22, .ref h23, .ref h24, .ref h25, .ref h26, .ref h27, .int 0, .ref h28, .ref h29, .int 0, .int 0, .int 0, .int 0, .int 0, .int 0, .ref h30, .int 0, .ref h31, .ref h32, .ref h33, .ref h34, .ref h35, .ref h36, .ref h37, .ref h38, .int 0, .int 0, .int 0, .int 0, .ref h39, .ref h40, .ref h41, .int 0, .ref h42, .int 0, .ref h43, .int 0, .int 0, .ref h44, .ref h45, .ref h46, .int 0, .ref h47, .ref h48, .ref h49, .ref h50, .ref h51, .ref h52, .ref h53, .int 0, .ref h54, .int 0, .ref h55, .ref h56, .ref h57, .int 0, .ref h58, .ref h59, .ref h60, .ref h61, .int 0, .ref h62, .ref h63, .ref h64, .ref h65, .int 0, .int 0, .int 0, .int 0, .int 0, .int 0, .int 0, .int 0, .int 0, .ref h66, .int 0, .ref h67, .int 0, .int 0, .int 0, .int 0, .int 0, .ref h68, .int 0, .int 0, .ref h69, .int 0, .ref h70, .int 0, .ref h71, .ref h72, .int 0, .ref h73, .ref h74, .ref h75, .ref h76, .long 0, .int 0, .ref h77, .ref h78, .ref h79, .ref h80, .ref h81, .ref h82, .ref h83, .ref h84, .ref h85, .ref h86, .ref h87, .ref h88, .ref h89, .ref h90, .ref h91, .int 0, .ref h92, .ref h93, .ref h94, .int 0])), (h48, .inl (k0, 4, .inl (fun _ => 0))), (h49, .inl (k1, 4, .inl (fun _ => 0))), (h50, .inl (k2, 400, .inl (upd (fun _ => 0) 0 (((w0 >>> ((0 : Int32).toInt64 &&& 63)) &&& 65535).toInt32))))] H_45 := hP_45
          have hD_45 : va_D A [(h0, .inr (15, [.int 0, .int 0, .ref h1, .int 0, .int (-1), .ref h2, .ref h3, .ref h4, .ref h5, .ref h6, .ref h7, .ref h8, .ref h9, .ref h10, .ref h11, .ref h12, .ref h13, .ref h14, .ref h15, .ref h16, .ref h17, .ref h18, .ref h19, .ref h20, .ref h21, .ref h22, .ref h23, .ref h24, .ref h25, .ref h26, .ref h27, .int 0, .ref h28, .ref h29, .int 0, .int 0, .int 0, .int 0, .int 0, .int 0, .ref h30, .int 0, .ref h31, .ref h32, .ref h33, .ref h34, .ref h35, .ref h36, .ref h37, .ref h38, .int 0, .int 0, .int 0, .int 0, .ref h39, .ref h40, .ref h41, .int 0, .ref h42, .int 0, .ref h43, .int 0, .int 0, .ref h44, .ref h45, .ref h46, .int 0, .ref h47, .ref h48, .ref h49, .ref h50, .ref h51, .ref h52, .ref h53, .int 0, .ref h54, .int 0, .ref h55, .ref h56, .ref h57, .int 0, .ref h58, .ref h59, .ref h60, .ref h61, .int 0, .ref h62, .ref h63, .ref h64, .ref h65, .int 0, .int 0, .int 0, .int 0, .int 0, .int 0, .int 0, .int 0, .int 0, .ref h66, .int 0, .ref h67, .int 0, .int 0, .int 0, .int 0, .int 0, .ref h68, .int 0, .int 0, .ref h69, .int 0, .ref h70, .int 0, .ref h71, .ref h72, .int 0, .ref h73, .ref h74, .ref h75, .ref h76, .long 0, .int 0, .ref h77, .ref h78, .ref h79, .ref h80, .ref h81, .ref h82, .ref h83, .ref h84, .ref h85, .ref h86, .ref h87, .ref h88, .ref h89, .ref h90, .ref h91, .int 0, .ref h92, .ref h93, .ref h94, .int 0])), (h48, .inl (k0, 4, .inl (fun _ => 0))), (h49, .inl (k1, 4, .inl (fun _ => 0))), (h50, .inl (k2, 400, .inl (upd (fun _ => 0) 0 (((w0 >>> ((0 : Int32).toInt64 &&& 63)) &&& 65535).toInt32))))] := hD_45
          clear hP_3 hD_3 hS_3
          refine lv_iinc (v := 1) (lv' := [(6, .int 1), (5, .int 0), (0, .ref h0), (1, .int 0), (2, .int 1), (3, .long w0)]) hx hb dX12_put__102 hl_38 (k := 0) rfl (by decide) (by decide) rfl (fun ls_46 hl_46 => ?_)
          clear hl_38
          refine lv_goto (tgt := 65) hx hb dX12_put__105 (by decide) ?_
          refine lv_iload hx hb dX12_put__65 (lv_at hl_46 0 rfl) ?_
          refine lv_iload_n hx hb dX12_put__67 rfl (lv_at hl_46 4 rfl) ?_
          refine lv_icmp_ge (tgt := 108) hx hb dX12_put__68 (by decide) (fun _ => ?_) (fun c_ => absurd (by decide) c_)
          refine lv_aload_n hx hb dX12_put__108 rfl (lv_at hl_46 2 rfl) ?_
          refine va_get (D := (dC, dI)) (ci := 15) (v := .ref h48) (C := RX12) (T := TX12) (N := 143) hx hb ht inX12 hown hK_3 hP_45 0 rfl rfl 68 (by decide) (ht _ tw_2208) (fun _ h9 => h9) rfl dX12_put__109 ?_
          refine lv_iload_n hx hb dX12_put__112 rfl (lv_at hl_46 3 rfl) ?_
          refine lv_iconst (v := 1) hx hb dX12_put__113 (by decide) ?_
          refine va_zast hx hb hK_3 hP_45 hD_45 hS_45 1 0 rfl rfl (i := 0) (vpi (by decide)) dX12_put__114 (fun H_47 locs_47 hP_47 hD_47 hS_47 => ?_)
          have hP_47 : va_P (dC, dI) vwCl [(h0, .inr (15, [.int 0, .int 0, .ref h1, .int 0, .int (-1), .ref h2, .ref h3, .ref h4, .ref h5, .ref h6, .ref h7, .ref h8, .ref h9, .ref h10, .ref h11, .ref h12, .ref h13, .ref h14, .ref h15, .ref h16, .ref h17, .ref h18, .ref h19, .ref h20, .ref h21, .ref h22, .ref h23, .ref h24, .ref h25, .ref h26, .ref h27, .int 0, .ref h28, .ref h29, .int 0, .int 0, .int 0, .int 0, .int 0, .int 0, .ref h30, .int 0, .ref h31, .ref h32, .ref h33, .ref h34, .ref h35, .ref h36, .ref h37, .ref h38, .int 0, .int 0, .int 0, .int 0, .ref h39, .ref h40, .ref h41, .int 0, .ref h42, .int 0, .ref h43, .int 0, .int 0, .ref h44, .ref h45, .ref h46, .int 0, .ref h47, .ref h48, .ref h49, .ref h50, .ref h51, .ref h52, .ref h53, .int 0, .ref h54, .int 0, .ref h55, .ref h56, .ref h57, .int 0, .ref h58, .ref h59, .ref h60, .ref h61, .int 0, .ref h62, .ref h63, .ref h64, .ref h65, .int 0, .int 0, .int 0, .int 0, .int 0, .int 0, .int 0, .int 0, .int 0, .ref h66, .int 0, .ref h67, .int 0, .int 0, .int 0, .int 0, .int 0, .ref h68, .int 0, .int 0, .ref h69, .int 0, .ref h70, .int 0, .ref h71, .ref h72, .int 0, .ref h73, .ref h74, .ref h75, .ref h76, .long 0, .int 0, .ref h77, .ref h78, .ref h79, .ref h80, .ref h81, .ref h82, .ref h83, .ref h84, .ref h85, .ref h86, .ref h87, .ref h88, .ref h89, .ref h90, .ref h91, .int 0, .ref h92, .ref h93, .ref h94, .int 0])), (h48, .inl (k0, 4, .inl (upd (fun _ => 0) 0 1))), (h49, .inl (k1, 4, .inl (fun _ => 0))), (h50, .inl (k2, 400, .inl (upd (fun _ => 0) 0 (((w0 >>> ((0 : Int32).toInt64 &&& 63)) &&& 65535).toInt32))))] H_47 := hP_47
          have hD_47 : va_D A [(h0, .inr (15, [.int 0, .int 0, .ref h1, .int 0, .int (-1), .ref h2, .ref h3, .ref h4, .ref h5, .ref h6, .ref h7, .ref h8, .ref h9, .ref h10, .ref h11, .ref h12, .ref h13, .ref h14, .ref h15, .ref h16, .ref h17, .ref h18, .ref h19, .ref h20, .ref h21, .ref h22, .ref h23, .ref h24, .ref h25, .ref h26, .ref h27, .int 0, .ref h28, .ref h29, .int 0, .int 0, .int 0, .int 0, .int 0, .int 0, .ref h30, .int 0, .ref h31, .ref h32, .ref h33, .ref h34, .ref h35, .ref h36, .ref h37, .ref h38, .int 0, .int 0, .int 0, .int 0, .ref h39, .ref h40, .ref h41, .int 0, .ref h42, .int 0, .ref h43, .int 0, .int 0, .ref h44, .ref h45, .ref h46, .int 0, .ref h47, .ref h48, .ref h49, .ref h50, .ref h51, .ref h52, .ref h53, .int 0, .ref h54, .int 0, .ref h55, .ref h56, .ref h57, .int 0, .ref h58, .ref h59, .ref h60, .ref h61, .int 0, .ref h62, .ref h63, .ref h64, .ref h65, .int 0, .int 0, .int 0, .int 0, .int 0, .int 0, .int 0, .int 0, .int 0, .ref h66, .int 0, .ref h67, .int 0, .int 0, .int 0, .int 0, .int 0, .ref h68, .int 0, .int 0, .ref h69, .int 0, .ref h70, .int 0, .ref h71, .ref h72, .int 0, .ref h73, .ref h74, .ref h75, .ref h76, .long 0, .int 0, .ref h77, .ref h78, .ref h79, .ref h80, .ref h81, .ref h82, .ref h83, .ref h84, .ref h85, .ref h86, .ref h87, .ref h88, .ref h89, .ref h90, .ref h91, .int 0, .ref h92, .ref h93, .ref h94, .int 0])), (h48, .inl (k0, 4, .inl (upd (fun _ => 0) 0 1))), (h49, .inl (k1, 4, .inl (fun _ => 0))), (h50, .inl (k2, 400, .inl (upd (fun _ => 0) 0 (((w0 >>> ((0 : Int32).toInt64 &&& 63)) &&& 65535).toInt32))))] := hD_47
          clear hP_45 hD_45 hS_45
          refine lv_aload_n hx hb dX12_put__115 rfl (lv_at hl_46 2 rfl) ?_
          refine va_get (D := (dC, dI)) (ci := 15) (v := .ref h49) (C := RX12) (T := TX12) (N := 143) hx hb ht inX12 hown hK_3 hP_47 0 rfl rfl 69 (by decide) (ht _ tw_2209) (fun _ h9 => h9) rfl dX12_put__116 ?_
          refine lv_iload_n hx hb dX12_put__119 rfl (lv_at hl_46 3 rfl) ?_
          refine lv_iload hx hb dX12_put__120 (lv_at hl_46 1 rfl) ?_
          refine lv_iload_n hx hb dX12_put__122 rfl (lv_at hl_46 4 rfl) ?_
          refine lv_iadd hx hb dX12_put__123 ?_
          refine lv_topi (fun x_48 ex_48 => ?_)
          obtain rfl : x_48 = 1 := ex_48.trans (by decide)
          refine va_iast hx hb hK_3 hP_47 hD_47 hS_47 2 1 rfl rfl (i := 0) (vpi (by decide)) dX12_put__124 (fun H_49 locs_49 hP_49 hD_49 hS_49 => ?_)
          have hP_49 : va_P (dC, dI) vwCl [(h0, .inr (15, [.int 0, .int 0, .ref h1, .int 0, .int (-1), .ref h2, .ref h3, .ref h4, .ref h5, .ref h6, .ref h7, .ref h8, .ref h9, .ref h10, .ref h11, .ref h12, .ref h13, .ref h14, .ref h15, .ref h16, .ref h17, .ref h18, .ref h19, .ref h20, .ref h21, .ref h22, .ref h23, .ref h24, .ref h25, .ref h26, .ref h27, .int 0, .ref h28, .ref h29, .int 0, .int 0, .int 0, .int 0, .int 0, .int 0, .ref h30, .int 0, .ref h31, .ref h32, .ref h33, .ref h34, .ref h35, .ref h36, .ref h37, .ref h38, .int 0, .int 0, .int 0, .int 0, .ref h39, .ref h40, .ref h41, .int 0, .ref h42, .int 0, .ref h43, .int 0, .int 0, .ref h44, .ref h45, .ref h46, .int 0, .ref h47, .ref h48, .ref h49, .ref h50, .ref h51, .ref h52, .ref h53, .int 0, .ref h54, .int 0, .ref h55, .ref h56, .ref h57, .int 0, .ref h58, .ref h59, .ref h60, .ref h61, .int 0, .ref h62, .ref h63, .ref h64, .ref h65, .int 0, .int 0, .int 0, .int 0, .int 0, .int 0, .int 0, .int 0, .int 0, .ref h66, .int 0, .ref h67, .int 0, .int 0, .int 0, .int 0, .int 0, .ref h68, .int 0, .int 0, .ref h69, .int 0, .ref h70, .int 0, .ref h71, .ref h72, .int 0, .ref h73, .ref h74, .ref h75, .ref h76, .long 0, .int 0, .ref h77, .ref h78, .ref h79, .ref h80, .ref h81, .ref h82, .ref h83, .ref h84, .ref h85, .ref h86, .ref h87, .ref h88, .ref h89, .ref h90, .ref h91, .int 0, .ref h92, .ref h93, .ref h94, .int 0])), (h48, .inl (k0, 4, .inl (upd (fun _ => 0) 0 1))), (h49, .inl (k1, 4, .inl (upd (fun _ => 0) 0 1))), (h50, .inl (k2, 400, .inl (upd (fun _ => 0) 0 (((w0 >>> ((0 : Int32).toInt64 &&& 63)) &&& 65535).toInt32))))] H_49 := hP_49
          have hD_49 : va_D A [(h0, .inr (15, [.int 0, .int 0, .ref h1, .int 0, .int (-1), .ref h2, .ref h3, .ref h4, .ref h5, .ref h6, .ref h7, .ref h8, .ref h9, .ref h10, .ref h11, .ref h12, .ref h13, .ref h14, .ref h15, .ref h16, .ref h17, .ref h18, .ref h19, .ref h20, .ref h21, .ref h22, .ref h23, .ref h24, .ref h25, .ref h26, .ref h27, .int 0, .ref h28, .ref h29, .int 0, .int 0, .int 0, .int 0, .int 0, .int 0, .ref h30, .int 0, .ref h31, .ref h32, .ref h33, .ref h34, .ref h35, .ref h36, .ref h37, .ref h38, .int 0, .int 0, .int 0, .int 0, .ref h39, .ref h40, .ref h41, .int 0, .ref h42, .int 0, .ref h43, .int 0, .int 0, .ref h44, .ref h45, .ref h46, .int 0, .ref h47, .ref h48, .ref h49, .ref h50, .ref h51, .ref h52, .ref h53, .int 0, .ref h54, .int 0, .ref h55, .ref h56, .ref h57, .int 0, .ref h58, .ref h59, .ref h60, .ref h61, .int 0, .ref h62, .ref h63, .ref h64, .ref h65, .int 0, .int 0, .int 0, .int 0, .int 0, .int 0, .int 0, .int 0, .int 0, .ref h66, .int 0, .ref h67, .int 0, .int 0, .int 0, .int 0, .int 0, .ref h68, .int 0, .int 0, .ref h69, .int 0, .ref h70, .int 0, .ref h71, .ref h72, .int 0, .ref h73, .ref h74, .ref h75, .ref h76, .long 0, .int 0, .ref h77, .ref h78, .ref h79, .ref h80, .ref h81, .ref h82, .ref h83, .ref h84, .ref h85, .ref h86, .ref h87, .ref h88, .ref h89, .ref h90, .ref h91, .int 0, .ref h92, .ref h93, .ref h94, .int 0])), (h48, .inl (k0, 4, .inl (upd (fun _ => 0) 0 1))), (h49, .inl (k1, 4, .inl (upd (fun _ => 0) 0 1))), (h50, .inl (k2, 400, .inl (upd (fun _ => 0) 0 (((w0 >>> ((0 : Int32).toInt64 &&& 63)) &&& 65535).toInt32))))] := hD_49
          clear hP_47 hD_47 hS_47
          refine lv_aload_n hx hb dX12_put__125 rfl (lv_at hl_46 2 rfl) ?_
          refine lv_aload_n hx hb dX12_put__126 rfl (lv_at hl_46 2 rfl) ?_
          refine va_get (D := (dC, dI)) (ci := 15) (v := .int 0) (C := RX12) (T := TX12) (N := 143) hx hb ht inX12 hown hK_3 hP_49 0 rfl rfl 102 (by decide) (ht _ tw_2242) (fun _ h9 => h9) rfl dX12_put__127 ?_
          refine lv_if_eq (tgt := 145) hx hb dX12_put__130 (by decide) (fun _ => ?_) (fun c_ => absurd (by decide) c_)
          refine lv_iconst (v := 0) hx hb dX12_put__145 (by decide) ?_
          refine va_put (D := (dC, dI)) (ci := 15) (v := .int 0) (ty := .boolean) (C := RX12) (T := TX12) (N := 143) hx hb ht inX12 tyX12 tyX12_ok nmX12 hown hK_3 hP_49 hD_49 hS_49 0 rfl rfl 102 (by decide) (ht _ tw_2242) (fun _ h9 => h9) rfl (by decide +kernel) rfl rfl (Nat.le_of_ble_eq_true rfl) dX12_put__146 (fun H_50 locs_50 hP_50 hD_50 hS_50 => ?_)
          have hP_50 : va_P (dC, dI) vwCl [(h0, .inr (15, [.int 0, .int 0, .ref h1, .int 0, .int (-1), .ref h2, .ref h3, .ref h4, .ref h5, .ref h6, .ref h7, .ref h8, .ref h9, .ref h10, .ref h11, .ref h12, .ref h13, .ref h14, .ref h15, .ref h16, .ref h17, .ref h18, .ref h19, .ref h20, .ref h21, .ref h22, .ref h23, .ref h24, .ref h25, .ref h26, .ref h27, .int 0, .ref h28, .ref h29, .int 0, .int 0, .int 0, .int 0, .int 0, .int 0, .ref h30, .int 0, .ref h31, .ref h32, .ref h33, .ref h34, .ref h35, .ref h36, .ref h37, .ref h38, .int 0, .int 0, .int 0, .int 0, .ref h39, .ref h40, .ref h41, .int 0, .ref h42, .int 0, .ref h43, .int 0, .int 0, .ref h44, .ref h45, .ref h46, .int 0, .ref h47, .ref h48, .ref h49, .ref h50, .ref h51, .ref h52, .ref h53, .int 0, .ref h54, .int 0, .ref h55, .ref h56, .ref h57, .int 0, .ref h58, .ref h59, .ref h60, .ref h61, .int 0, .ref h62, .ref h63, .ref h64, .ref h65, .int 0, .int 0, .int 0, .int 0, .int 0, .int 0, .int 0, .int 0, .int 0, .ref h66, .int 0, .ref h67, .int 0, .int 0, .int 0, .int 0, .int 0, .ref h68, .int 0, .int 0, .ref h69, .int 0, .ref h70, .int 0, .ref h71, .ref h72, .int 0, .ref h73, .ref h74, .ref h75, .ref h76, .long 0, .int 0, .ref h77, .ref h78, .ref h79, .ref h80, .ref h81, .ref h82, .ref h83, .ref h84, .ref h85, .ref h86, .ref h87, .ref h88, .ref h89, .ref h90, .ref h91, .int 0, .ref h92, .ref h93, .ref h94, .int 0])), (h48, .inl (k0, 4, .inl (upd (fun _ => 0) 0 1))), (h49, .inl (k1, 4, .inl (upd (fun _ => 0) 0 1))), (h50, .inl (k2, 400, .inl (upd (fun _ => 0) 0 (((w0 >>> ((0 : Int32).toInt64 &&& 63)) &&& 65535).toInt32))))] H_50 := hP_50
          have hD_50 : va_D A [(h0, .inr (15, [.int 0, .int 0, .ref h1, .int 0, .int (-1), .ref h2, .ref h3, .ref h4, .ref h5, .ref h6, .ref h7, .ref h8, .ref h9, .ref h10, .ref h11, .ref h12, .ref h13, .ref h14, .ref h15, .ref h16, .ref h17, .ref h18, .ref h19, .ref h20, .ref h21, .ref h22, .ref h23, .ref h24, .ref h25, .ref h26, .ref h27, .int 0, .ref h28, .ref h29, .int 0, .int 0, .int 0, .int 0, .int 0, .int 0, .ref h30, .int 0, .ref h31, .ref h32, .ref h33, .ref h34, .ref h35, .ref h36, .ref h37, .ref h38, .int 0, .int 0, .int 0, .int 0, .ref h39, .ref h40, .ref h41, .int 0, .ref h42, .int 0, .ref h43, .int 0, .int 0, .ref h44, .ref h45, .ref h46, .int 0, .ref h47, .ref h48, .ref h49, .ref h50, .ref h51, .ref h52, .ref h53, .int 0, .ref h54, .int 0, .ref h55, .ref h56, .ref h57, .int 0, .ref h58, .ref h59, .ref h60, .ref h61, .int 0, .ref h62, .ref h63, .ref h64, .ref h65, .int 0, .int 0, .int 0, .int 0, .int 0, .int 0, .int 0, .int 0, .int 0, .ref h66, .int 0, .ref h67, .int 0, .int 0, .int 0, .int 0, .int 0, .ref h68, .int 0, .int 0, .ref h69, .int 0, .ref h70, .int 0, .ref h71, .ref h72, .int 0, .ref h73, .ref h74, .ref h75, .ref h76, .long 0, .int 0, .ref h77, .ref h78, .ref h79, .ref h80, .ref h81, .ref h82, .ref h83, .ref h84, .ref h85, .ref h86, .ref h87, .ref h88, .ref h89, .ref h90, .ref h91, .int 0, .ref h92, .ref h93, .ref h94, .int 0])), (h48, .inl (k0, 4, .inl (upd (fun _ => 0) 0 1))), (h49, .inl (k1, 4, .inl (upd (fun _ => 0) 0 1))), (h50, .inl (k2, 400, .inl (upd (fun _ => 0) 0 (((w0 >>> ((0 : Int32).toInt64 &&& 63)) &&& 65535).toInt32))))] := hD_50
          clear hP_49 hD_49 hS_49
          refine lv_iload hx hb dX12_put__149 (lv_at hl_46 1 rfl) ?_
          refine lv_iload_n hx hb dX12_put__151 rfl (lv_at hl_46 4 rfl) ?_
          refine lv_iadd hx hb dX12_put__152 ?_
          refine lv_topi (fun x_51 ex_51 => ?_)
          obtain rfl : x_51 = 1 := ex_51.trans (by decide)
          have hP9 := hP_50.sub (ws' := []) [] rfl
          have hD9 := hD_50.sub (ws' := []) [] (by decide) rfl
          have hK9 := hK_3.sub (tys' := []) [] rfl
          refine W.widen (k := 0) (n := 0) (by decide) (by decide) ?_
          exact W.iret (v := 1) hx hb hr (fun t9 ht9 hW9 => ⟨⟨1, 4, rfl, (Or.inr (Or.inr (Or.inr (Or.inr ⟨rfl, rfl, cc_2_0, cc_2_1, cc_3_0, cc_3_1⟩)))), ⟨by rw [ht9]; exact hP9, va_K.moved hW9.alike hK9, hD9⟩⟩, hS_50.F ht9⟩) hS_50.2.2 dX12_put__153
        · refine va_zald hx hb hK_3 hP_3 1 0 rfl rfl (i := 1) (vpi (by decide)) dX12_put__34 ?_
          refine W.eq (g2 := F0 m 35 ls [.int 0]) rfl ?_
          refine lv_if_eq (tgt := 47) hx hb dX12_put__35 (by decide) (fun _ => ?_) (fun c_ => absurd (by decide) c_)
          refine lv_iconst (v := 0) hx hb dX12_put__47 (by decide) ?_
          refine lv_istore (lv' := [(5, .int 0), (0, .ref h0), (1, .int 1), (2, .int 1), (3, .long w0)]) hx hb dX12_put__48 hl (by decide) rfl (fun ls_52 hl_52 => ?_)
          clear hl
          refine lv_iload hx hb dX12_put__50 (lv_at hl_52 0 rfl) ?_
          refine lv_iload_n hx hb dX12_put__52 rfl (lv_at hl_52 3 rfl) ?_
          refine lv_iadd hx hb dX12_put__53 ?_
          refine lv_topi (fun x_53 ex_53 => ?_)
          obtain rfl : x_53 = 1 := ex_53.trans (by decide)
          refine lv_bipush (v := 100) hx hb dX12_put__54 (by decide) ?_
          refine lv_icmp_le (tgt := 62) hx hb dX12_put__56 (by decide) (fun _ => ?_) (fun c_ => absurd (by decide) c_)
          refine lv_iconst (v := 0) hx hb dX12_put__62 (by decide) ?_
          refine lv_istore (lv' := [(6, .int 0), (5, .int 0), (0, .ref h0), (1, .int 1), (2, .int 1), (3, .long w0)]) hx hb dX12_put__63 hl_52 (by decide) rfl (fun ls_54 hl_54 => ?_)
          clear hl_52
          refine lv_iload hx hb dX12_put__65 (lv_at hl_54 0 rfl) ?_
          refine lv_iload_n hx hb dX12_put__67 rfl (lv_at hl_54 4 rfl) ?_
          refine lv_icmp_ge (tgt := 108) hx hb dX12_put__68 (by decide) (fun c_ => absurd c_ (by decide)) (fun _ => ?_)
          refine lv_aload_n hx hb dX12_put__71 rfl (lv_at hl_54 2 rfl) ?_
          refine va_get (D := (dC, dI)) (ci := 15) (v := .ref h50) (C := RX12) (T := TX12) (N := 143) hx hb ht inX12 hown hK_3 hP_3 0 rfl rfl 70 (by decide) (ht _ tw_2210) (fun _ h9 => h9) rfl dX12_put__72 ?_
          refine lv_bipush (v := 100) hx hb dX12_put__75 (by decide) ?_
          refine lv_iload_n hx hb dX12_put__77 rfl (lv_at hl_54 3 rfl) ?_
          refine lv_imul hx hb dX12_put__78 ?_
          refine lv_topi (fun x_55 ex_55 => ?_)
          obtain rfl : x_55 = 100 := ex_55.trans (by decide)
          refine lv_iload hx hb dX12_put__79 (lv_at hl_54 1 rfl) ?_
          refine lv_iadd hx hb dX12_put__81 ?_
          refine lv_topi (fun x_56 ex_56 => ?_)
          obtain rfl : x_56 = 100 := ex_56.trans (by decide)
          refine lv_iload hx hb dX12_put__82 (lv_at hl_54 0 rfl) ?_
          refine lv_iadd hx hb dX12_put__84 ?_
          refine lv_topi (fun x_57 ex_57 => ?_)
          obtain rfl : x_57 = 100 := ex_57.trans (by decide)
          refine lv_lload_n hx hb dX12_put__85 rfl (lv_at hl_54 5 rfl) ?_
          refine lv_bipush (v := 16) hx hb dX12_put__86 (by decide) ?_
          refine lv_iload_n hx hb dX12_put__88 rfl (lv_at hl_54 4 rfl) ?_
          refine lv_iconst (v := 1) hx hb dX12_put__89 (by decide) ?_
          refine lv_isub hx hb dX12_put__90 ?_
          refine lv_topi (fun x_58 ex_58 => ?_)
          obtain rfl : x_58 = 0 := ex_58.trans (by decide)
          refine lv_iload hx hb dX12_put__91 (lv_at hl_54 0 rfl) ?_
          refine lv_isub hx hb dX12_put__93 ?_
          refine lv_topi (fun x_59 ex_59 => ?_)
          obtain rfl : x_59 = 0 := ex_59.trans (by decide)
          refine lv_imul hx hb dX12_put__94 ?_
          refine lv_topi (fun x_60 ex_60 => ?_)
          obtain rfl : x_60 = 0 := ex_60.trans (by decide)
          refine lv_lshr (v := (w0 >>> ((0 : Int32).toInt64 &&& 63))) hx hb dX12_put__95 rfl ?_
          refine lv_ldc2 hx hb hown (ht _ tw_2813) dX12_put__96 ?_
          refine lv_land hx hb dX12_put__99 ?_
          refine lv_l2i (v := ((w0 >>> ((0 : Int32).toInt64 &&& 63)) &&& 65535).toInt32) hx hb dX12_put__100 rfl ?_
          refine va_iast hx hb hK_3 hP_3 hD_3 hS_3 3 2 rfl rfl (i := 100) (vpi (by decide)) dX12_put__101 (fun H_61 locs_61 hP_61 hD_61 hS_61 => ?_)
          have hP_61 : va_P (dC, dI) vwCl [(h0, .inr (15, [.int 0, .int 0, .ref h1, .int 0, .int (-1), .ref h2, .ref h3, .ref h4, .ref h5, .ref h6, .ref h7, .ref h8, .ref h9, .ref h10, .ref h11, .ref h12, .ref h13, .ref h14, .ref h15, .ref h16, .ref h17, .ref h18, .ref h19, .ref h20, .ref h21, .ref h22, .ref h23, .ref h24, .ref h25, .ref h26, .ref h27, .int 0, .ref h28, .ref h29, .int 0, .int 0, .int 0, .int 0, .int 0, .int 0, .ref h30, .int 0, .ref h31, .ref h32, .ref h33, .ref h34, .ref h35, .ref h36, .ref h37, .ref h38, .int 0, .int 0, .int 0, .int 0, .ref h39, .ref h40, .ref h41, .int 0, .ref h42, .int 0, .ref h43, .int 0, .int 0, .ref h44, .ref h45, .ref h46, .int 0, .ref h47, .ref h48, .ref h49, .ref h50, .ref h51, .ref h52, .ref h53, .int 0, .ref h54, .int 0, .ref h55, .ref h56, .ref h57, .int 0, .ref h58, .ref h59, .ref h60, .ref h61, .int 0, .ref h62, .ref h63, .ref h64, .ref h65, .int 0, .int 0, .int 0, .int 0, .int 0, .int 0, .int 0, .int 0, .int 0, .ref h66, .int 0, .ref h67, .int 0, .int 0, .int 0, .int 0, .int 0, .ref h68, .int 0, .int 0, .ref h69, .int 0, .ref h70, .int 0, .ref h71, .ref h72, .int 0, .ref h73, .ref h74, .ref h75, .ref h76, .long 0, .int 0, .ref h77, .ref h78, .ref h79, .ref h80, .ref h81, .ref h82, .ref h83, .ref h84, .ref h85, .ref h86, .ref h87, .ref h88, .ref h89, .ref h90, .ref h91, .int 0, .ref h92, .ref h93, .ref h94, .int 0])), (h48, .inl (k0, 4, .inl (fun _ => 0))), (h49, .inl (k1, 4, .inl (fun _ => 0))), (h50, .inl (k2, 400, .inl (upd (fun _ => 0) 100 (((w0 >>> ((0 : Int32).toInt64 &&& 63)) &&& 65535).toInt32))))] H_61 := hP_61
          have hD_61 : va_D A [(h0, .inr (15, [.int 0, .int 0, .ref h1, .int 0, .int (-1), .ref h2, .ref h3, .ref h4, .ref h5, .ref h6, .ref h7, .ref h8, .ref h9, .ref h10, .ref h11, .ref h12, .ref h13, .ref h14, .ref h15, .ref h16, .ref h17, .ref h18, .ref h19, .ref h20, .ref h21, .ref h22, .ref h23, .ref h24, .ref h25, .ref h26, .ref h27, .int 0, .ref h28, .ref h29, .int 0, .int 0, .int 0, .int 0, .int 0, .int 0, .ref h30, .int 0, .ref h31, .ref h32, .ref h33, .ref h34, .ref h35, .ref h36, .ref h37, .ref h38, .int 0, .int 0, .int 0, .int 0, .ref h39, .ref h40, .ref h41, .int 0, .ref h42, .int 0, .ref h43, .int 0, .int 0, .ref h44, .ref h45, .ref h46, .int 0, .ref h47, .ref h48, .ref h49, .ref h50, .ref h51, .ref h52, .ref h53, .int 0, .ref h54, .int 0, .ref h55, .ref h56, .ref h57, .int 0, .ref h58, .ref h59, .ref h60, .ref h61, .int 0, .ref h62, .ref h63, .ref h64, .ref h65, .int 0, .int 0, .int 0, .int 0, .int 0, .int 0, .int 0, .int 0, .int 0, .ref h66, .int 0, .ref h67, .int 0, .int 0, .int 0, .int 0, .int 0, .ref h68, .int 0, .int 0, .ref h69, .int 0, .ref h70, .int 0, .ref h71, .ref h72, .int 0, .ref h73, .ref h74, .ref h75, .ref h76, .long 0, .int 0, .ref h77, .ref h78, .ref h79, .ref h80, .ref h81, .ref h82, .ref h83, .ref h84, .ref h85, .ref h86, .ref h87, .ref h88, .ref h89, .ref h90, .ref h91, .int 0, .ref h92, .ref h93, .ref h94, .int 0])), (h48, .inl (k0, 4, .inl (fun _ => 0))), (h49, .inl (k1, 4, .inl (fun _ => 0))), (h50, .inl (k2, 400, .inl (upd (fun _ => 0) 100 (((w0 >>> ((0 : Int32).toInt64 &&& 63)) &&& 65535).toInt32))))] := hD_61
          clear hP_3 hD_3 hS_3
          refine lv_iinc (v := 1) (lv' := [(6, .int 1), (5, .int 0), (0, .ref h0), (1, .int 1), (2, .int 1), (3, .long w0)]) hx hb dX12_put__102 hl_54 (k := 0) rfl (by decide) (by decide) rfl (fun ls_62 hl_62 => ?_)
          clear hl_54
          refine lv_goto (tgt := 65) hx hb dX12_put__105 (by decide) ?_
          refine lv_iload hx hb dX12_put__65 (lv_at hl_62 0 rfl) ?_
          refine lv_iload_n hx hb dX12_put__67 rfl (lv_at hl_62 4 rfl) ?_
          refine lv_icmp_ge (tgt := 108) hx hb dX12_put__68 (by decide) (fun _ => ?_) (fun c_ => absurd (by decide) c_)
          refine lv_aload_n hx hb dX12_put__108 rfl (lv_at hl_62 2 rfl) ?_
          refine va_get (D := (dC, dI)) (ci := 15) (v := .ref h48) (C := RX12) (T := TX12) (N := 143) hx hb ht inX12 hown hK_3 hP_61 0 rfl rfl 68 (by decide) (ht _ tw_2208) (fun _ h9 => h9) rfl dX12_put__109 ?_
          refine lv_iload_n hx hb dX12_put__112 rfl (lv_at hl_62 3 rfl) ?_
          refine lv_iconst (v := 1) hx hb dX12_put__113 (by decide) ?_
          refine va_zast hx hb hK_3 hP_61 hD_61 hS_61 1 0 rfl rfl (i := 1) (vpi (by decide)) dX12_put__114 (fun H_63 locs_63 hP_63 hD_63 hS_63 => ?_)
          have hP_63 : va_P (dC, dI) vwCl [(h0, .inr (15, [.int 0, .int 0, .ref h1, .int 0, .int (-1), .ref h2, .ref h3, .ref h4, .ref h5, .ref h6, .ref h7, .ref h8, .ref h9, .ref h10, .ref h11, .ref h12, .ref h13, .ref h14, .ref h15, .ref h16, .ref h17, .ref h18, .ref h19, .ref h20, .ref h21, .ref h22, .ref h23, .ref h24, .ref h25, .ref h26, .ref h27, .int 0, .ref h28, .ref h29, .int 0, .int 0, .int 0, .int 0, .int 0, .int 0, .ref h30, .int 0, .ref h31, .ref h32, .ref h33, .ref h34, .ref h35, .ref h36, .ref h37, .ref h38, .int 0, .int 0, .int 0, .int 0, .ref h39, .ref h40, .ref h41, .int 0, .ref h42, .int 0, .ref h43, .int 0, .int 0, .ref h44, .ref h45, .ref h46, .int 0, .ref h47, .ref h48, .ref h49, .ref h50, .ref h51, .ref h52, .ref h53, .int 0, .ref h54, .int 0, .ref h55, .ref h56, .ref h57, .int 0, .ref h58, .ref h59, .ref h60, .ref h61, .int 0, .ref h62, .ref h63, .ref h64, .ref h65, .int 0, .int 0, .int 0, .int 0, .int 0, .int 0, .int 0, .int 0, .int 0, .ref h66, .int 0, .ref h67, .int 0, .int 0, .int 0, .int 0, .int 0, .ref h68, .int 0, .int 0, .ref h69, .int 0, .ref h70, .int 0, .ref h71, .ref h72, .int 0, .ref h73, .ref h74, .ref h75, .ref h76, .long 0, .int 0, .ref h77, .ref h78, .ref h79, .ref h80, .ref h81, .ref h82, .ref h83, .ref h84, .ref h85, .ref h86, .ref h87, .ref h88, .ref h89, .ref h90, .ref h91, .int 0, .ref h92, .ref h93, .ref h94, .int 0])), (h48, .inl (k0, 4, .inl (upd (fun _ => 0) 1 1))), (h49, .inl (k1, 4, .inl (fun _ => 0))), (h50, .inl (k2, 400, .inl (upd (fun _ => 0) 100 (((w0 >>> ((0 : Int32).toInt64 &&& 63)) &&& 65535).toInt32))))] H_63 := hP_63
          have hD_63 : va_D A [(h0, .inr (15, [.int 0, .int 0, .ref h1, .int 0, .int (-1), .ref h2, .ref h3, .ref h4, .ref h5, .ref h6, .ref h7, .ref h8, .ref h9, .ref h10, .ref h11, .ref h12, .ref h13, .ref h14, .ref h15, .ref h16, .ref h17, .ref h18, .ref h19, .ref h20, .ref h21, .ref h22, .ref h23, .ref h24, .ref h25, .ref h26, .ref h27, .int 0, .ref h28, .ref h29, .int 0, .int 0, .int 0, .int 0, .int 0, .int 0, .ref h30, .int 0, .ref h31, .ref h32, .ref h33, .ref h34, .ref h35, .ref h36, .ref h37, .ref h38, .int 0, .int 0, .int 0, .int 0, .ref h39, .ref h40, .ref h41, .int 0, .ref h42, .int 0, .ref h43, .int 0, .int 0, .ref h44, .ref h45, .ref h46, .int 0, .ref h47, .ref h48, .ref h49, .ref h50, .ref h51, .ref h52, .ref h53, .int 0, .ref h54, .int 0, .ref h55, .ref h56, .ref h57, .int 0, .ref h58, .ref h59, .ref h60, .ref h61, .int 0, .ref h62, .ref h63, .ref h64, .ref h65, .int 0, .int 0, .int 0, .int 0, .int 0, .int 0, .int 0, .int 0, .int 0, .ref h66, .int 0, .ref h67, .int 0, .int 0, .int 0, .int 0, .int 0, .ref h68, .int 0, .int 0, .ref h69, .int 0, .ref h70, .int 0, .ref h71, .ref h72, .int 0, .ref h73, .ref h74, .ref h75, .ref h76, .long 0, .int 0, .ref h77, .ref h78, .ref h79, .ref h80, .ref h81, .ref h82, .ref h83, .ref h84, .ref h85, .ref h86, .ref h87, .ref h88, .ref h89, .ref h90, .ref h91, .int 0, .ref h92, .ref h93, .ref h94, .int 0])), (h48, .inl (k0, 4, .inl (upd (fun _ => 0) 1 1))), (h49, .inl (k1, 4, .inl (fun _ => 0))), (h50, .inl (k2, 400, .inl (upd (fun _ => 0) 100 (((w0 >>> ((0 : Int32).toInt64 &&& 63)) &&& 65535).toInt32))))] := hD_63
          clear hP_61 hD_61 hS_61
          refine lv_aload_n hx hb dX12_put__115 rfl (lv_at hl_62 2 rfl) ?_
          refine va_get (D := (dC, dI)) (ci := 15) (v := .ref h49) (C := RX12) (T := TX12) (N := 143) hx hb ht inX12 hown hK_3 hP_63 0 rfl rfl 69 (by decide) (ht _ tw_2209) (fun _ h9 => h9) rfl dX12_put__116 ?_
          refine lv_iload_n hx hb dX12_put__119 rfl (lv_at hl_62 3 rfl) ?_
          refine lv_iload hx hb dX12_put__120 (lv_at hl_62 1 rfl) ?_
          refine lv_iload_n hx hb dX12_put__122 rfl (lv_at hl_62 4 rfl) ?_
          refine lv_iadd hx hb dX12_put__123 ?_
          refine lv_topi (fun x_64 ex_64 => ?_)
          obtain rfl : x_64 = 1 := ex_64.trans (by decide)
          refine va_iast hx hb hK_3 hP_63 hD_63 hS_63 2 1 rfl rfl (i := 1) (vpi (by decide)) dX12_put__124 (fun H_65 locs_65 hP_65 hD_65 hS_65 => ?_)
          have hP_65 : va_P (dC, dI) vwCl [(h0, .inr (15, [.int 0, .int 0, .ref h1, .int 0, .int (-1), .ref h2, .ref h3, .ref h4, .ref h5, .ref h6, .ref h7, .ref h8, .ref h9, .ref h10, .ref h11, .ref h12, .ref h13, .ref h14, .ref h15, .ref h16, .ref h17, .ref h18, .ref h19, .ref h20, .ref h21, .ref h22, .ref h23, .ref h24, .ref h25, .ref h26, .ref h27, .int 0, .ref h28, .ref h29, .int 0, .int 0, .int 0, .int 0, .int 0, .int 0, .ref h30, .int 0, .ref h31, .ref h32, .ref h33, .ref h34, .ref h35, .ref h36, .ref h37, .ref h38, .int 0, .int 0, .int 0, .int 0, .ref h39, .ref h40, .ref h41, .int 0, .ref h42, .int 0, .ref h43, .int 0, .int 0, .ref h44, .ref h45, .ref h46, .int 0, .ref h47, .ref h48, .ref h49, .ref h50, .ref h51, .ref h52, .ref h53, .int 0, .ref h54, .int 0, .ref h55, .ref h56, .ref h57, .int 0, .ref h58, .ref h59, .ref h60, .ref h61, .int 0, .ref h62, .ref h63, .ref h64, .ref h65, .int 0, .int 0, .int 0, .int 0, .int 0, .int 0, .int 0, .int 0, .int 0, .ref h66, .int 0, .ref h67, .int 0, .int 0, .int 0, .int 0, .int 0, .ref h68, .int 0, .int 0, .ref h69, .int 0, .ref h70, .int 0, .ref h71, .ref h72, .int 0, .ref h73, .ref h74, .ref h75, .ref h76, .long 0, .int 0, .ref h77, .ref h78, .ref h79, .ref h80, .ref h81, .ref h82, .ref h83, .ref h84, .ref h85, .ref h86, .ref h87, .ref h88, .ref h89, .ref h90, .ref h91, .int 0, .ref h92, .ref h93, .ref h94, .int 0])), (h48, .inl (k0, 4, .inl (upd (fun _ => 0) 1 1))), (h49, .inl (k1, 4, .inl (upd (fun _ => 0) 1 1))), (h50, .inl (k2, 400, .inl (upd (fun _ => 0) 100 (((w0 >>> ((0 : Int32).toInt64 &&& 63)) &&& 65535).toInt32))))] H_65 := hP_65
          have hD_65 : va_D A [(h0, .inr (15, [.int 0, .int 0, .ref h1, .int 0, .int (-1), .ref h2, .ref h3, .ref h4, .ref h5, .ref h6, .ref h7, .ref h8, .ref h9, .ref h10, .ref h11, .ref h12, .ref h13, .ref h14, .ref h15, .ref h16, .ref h17, .ref h18, .ref h19, .ref h20, .ref h21, .ref h22, .ref h23, .ref h24, .ref h25, .ref h26, .ref h27, .int 0, .ref h28, .ref h29, .int 0, .int 0, .int 0, .int 0, .int 0, .int 0, .ref h30, .int 0, .ref h31, .ref h32, .ref h33, .ref h34, .ref h35, .ref h36, .ref h37, .ref h38, .int 0, .int 0, .int 0, .int 0, .ref h39, .ref h40, .ref h41, .int 0, .ref h42, .int 0, .ref h43, .int 0, .int 0, .ref h44, .ref h45, .ref h46, .int 0, .ref h47, .ref h48, .ref h49, .ref h50, .ref h51, .ref h52, .ref h53, .int 0, .ref h54, .int 0, .ref h55, .ref h56, .ref h57, .int 0, .ref h58, .ref h59, .ref h60, .ref h61, .int 0, .ref h62, .ref h63, .ref h64, .ref h65, .int 0, .int 0, .int 0, .int 0, .int 0, .int 0, .int 0, .int 0, .int 0, .ref h66, .int 0, .ref h67, .int 0, .int 0, .int 0, .int 0, .int 0, .ref h68, .int 0, .int 0, .ref h69, .int 0, .ref h70, .int 0, .ref h71, .ref h72, .int 0, .ref h73, .ref h74, .ref h75, .ref h76, .long 0, .int 0, .ref h77, .ref h78, .ref h79, .ref h80, .ref h81, .ref h82, .ref h83, .ref h84, .ref h85, .ref h86, .ref h87, .ref h88, .ref h89, .ref h90, .ref h91, .int 0, .ref h92, .ref h93, .ref h94, .int 0])), (h48, .inl (k0, 4, .inl (upd (fun _ => 0) 1 1))), (h49, .inl (k1, 4, .inl (upd (fun _ => 0) 1 1))), (h50, .inl (k2, 400, .inl (upd (fun _ => 0) 100 (((w0 >>> ((0 : Int32).toInt64 &&& 63)) &&& 65535).toInt32))))] := hD_65
          clear hP_63 hD_63 hS_63
          refine lv_aload_n hx hb dX12_put__125 rfl (lv_at hl_62 2 rfl) ?_
          refine lv_aload_n hx hb dX12_put__126 rfl (lv_at hl_62 2 rfl) ?_
          refine va_get (D := (dC, dI)) (ci := 15) (v := .int 0) (C := RX12) (T := TX12) (N := 143) hx hb ht inX12 hown hK_3 hP_65 0 rfl rfl 102 (by decide) (ht _ tw_2242) (fun _ h9 => h9) rfl dX12_put__127 ?_
          refine lv_if_eq (tgt := 145) hx hb dX12_put__130 (by decide) (fun _ => ?_) (fun c_ => absurd (by decide) c_)
          refine lv_iconst (v := 0) hx hb dX12_put__145 (by decide) ?_
          refine va_put (D := (dC, dI)) (ci := 15) (v := .int 0) (ty := .boolean) (C := RX12) (T := TX12) (N := 143) hx hb ht inX12 tyX12 tyX12_ok nmX12 hown hK_3 hP_65 hD_65 hS_65 0 rfl rfl 102 (by decide) (ht _ tw_2242) (fun _ h9 => h9) rfl (by decide +kernel) rfl rfl (Nat.le_of_ble_eq_true rfl) dX12_put__146 (fun H_66 locs_66 hP_66 hD_66 hS_66 => ?_)
          have hP_66 : va_P (dC, dI) vwCl [(h0, .inr (15, [.int 0, .int 0, .ref h1, .int 0, .int (-1), .ref h2, .ref h3, .ref h4, .ref h5, .ref h6, .ref h7, .ref h8, .ref h9, .ref h10, .ref h11, .ref h12, .ref h13, .ref h14, .ref h15, .ref h16, .ref h17, .ref h18, .ref h19, .ref h20, .ref h21, .ref h22, .ref h23, .ref h24, .ref h25, .ref h26, .ref h27, .int 0, .ref h28, .ref h29, .int 0, .int 0, .int 0, .int 0, .int 0, .int 0, .ref h30, .int 0, .ref h31, .ref h32, .ref h33, .ref h34, .ref h35, .ref h36, .ref h37, .ref h38, .int 0, .int 0, .int 0, .int 0, .ref h39, .ref h40, .ref h41, .int 0, .ref h42, .int 0, .ref h43, .int 0, .int 0, .ref h44, .ref h45, .ref h46, .int 0, .ref h47, .ref h48, .ref h49, .ref h50, .ref h51, .ref h52, .ref h53, .int 0, .ref h54, .int 0, .ref h55, .ref h56, .ref h57, .int 0, .ref h58, .ref h59, .ref h60, .ref h61, .int 0, .ref h62, .ref h63, .ref h64, .ref h65, .int 0, .int 0, .int 0, .int 0, .int 0, .int 0, .int 0, .int 0, .int 0, .ref h66, .int 0, .ref h67, .int 0, .int 0, .int 0, .int 0, .int 0, .ref h68, .int 0, .int 0, .ref h69, .int 0, .ref h70, .int 0, .ref h71, .ref h72, .int 0, .ref h73, .ref h74, .ref h75, .ref h76, .long 0, .int 0, .ref h77, .ref h78, .ref h79, .ref h80, .ref h81, .ref h82, .ref h83, .ref h84, .ref h85, .ref h86, .ref h87, .ref h88, .ref h89, .ref h90, .ref h91, .int 0, .ref h92, .ref h93, .ref h94, .int 0])), (h48, .inl (k0, 4, .inl (upd (fun _ => 0) 1 1))), (h49, .inl (k1, 4, .inl (upd (fun _ => 0) 1 1))), (h50, .inl (k2, 400, .inl (upd (fun _ => 0) 100 (((w0 >>> ((0 : Int32).toInt64 &&& 63)) &&& 65535).toInt32))))] H_66 := hP_66
          have hD_66 : va_D A [(h0, .inr (15, [.int 0, .int 0, .ref h1, .int 0, .int (-1), .ref h2, .ref h3, .ref h4, .ref h5, .ref h6, .ref h7, .ref h8, .ref h9, .ref h10, .ref h11, .ref h12, .ref h13, .ref h14, .ref h15, .ref h16, .ref h17, .ref h18, .ref h19, .ref h20, .ref h21, .ref h22, .ref h23, .ref h24, .ref h25, .ref h26, .ref h27, .int 0, .ref h28, .ref h29, .int 0, .int 0, .int 0, .int 0, .int 0, .int 0, .ref h30, .int 0, .ref h31, .ref h32, .ref h33, .ref h34, .ref h35, .ref h36, .ref h37, .ref h38, .int 0, .int 0, .int 0, .int 0, .ref h39, .ref h40, .ref h41, .int 0, .ref h42, .int 0, .ref h43, .int 0, .int 0, .ref h44, .ref h45, .ref h46, .int 0, .ref h47, .ref h48, .ref h49, .ref h50, .ref h51, .ref h52, .ref h53, .int 0, .ref h54, .int 0, .ref h55, .ref h56, .ref h57, .int 0, .ref h58, .ref h59, .ref h60, .ref h61, .int 0, .ref h62, .ref h63, .ref h64, .ref h65, .int 0, .int 0, .int 0, .int 0, .int 0, .int 0, .int 0, .int 0, .int 0, .ref h66, .int 0, .ref h67, .int 0, .int 0, .int 0, .int 0, .int 0, .ref h68, .int 0, .int 0, .ref h69, .int 0, .ref h70, .int 0, .ref h71, .ref h72, .int 0, .ref h73, .ref h74, .ref h75, .ref h76, .long 0, .int 0, .ref h77, .ref h78, .ref h79, .ref h80, .ref h81, .ref h82, .ref h83, .ref h84, .ref h85, .ref h86, .ref h87, .ref h88, .ref h89, .ref h90, .ref h91, .int 0, .ref h92, .ref h93, .ref h94, .int 0])), (h48, .inl (k0, 4, .inl (upd (fun _ => 0) 1 1))), (h49, .inl (k1, 4, .inl (upd (fun _ => 0) 1 1))), (h50, .inl (k2, 400, .inl (upd (fun _ => 0) 100 (((w0 >>> ((0 : Int32).toInt64 &&& 63)) &&& 65535).toInt32))))] := hD_66
          clear hP_65 hD_65 hS_65
          refine lv_iload hx hb dX12_put__149 (lv_at hl_62 1 rfl) ?_
          refine lv_iload_n hx hb dX12_put__151 rfl (lv_at hl_62 4 rfl) ?_
          refine lv_iadd hx hb dX12_put__152 ?_
          refine lv_topi (fun x_67 ex_67 => ?_)
          obtain rfl : x_67 = 1 := ex_67.trans (by decide)
          have hP9 := hP_66.sub (ws' := []) [] rfl
          have hD9 := hD_66.sub (ws' := []) [] (by decide) rfl
          have hK9 := hK_3.sub (tys' := []) [] rfl
          refine W.widen (k := 0) (n := 0) (by decide) (by decide) ?_
          exact W.iret (v := 1) hx hb hr (fun t9 ht9 hW9 => ⟨⟨1, 4, rfl, (Or.inr (Or.inr (Or.inr (Or.inr ⟨rfl, rfl, cc_2_0, cc_2_1, cc_3_0, cc_3_1⟩)))), ⟨by rw [ht9]; exact hP9, va_K.moved hW9.alike hK9, hD9⟩⟩, hS_66.F ht9⟩) hS_66.2.2 dX12_put__153
        · refine va_zald hx hb hK_3 hP_3 1 0 rfl rfl (i := 2) (vpi (by decide)) dX12_put__34 ?_
          refine W.eq (g2 := F0 m 35 ls [.int 0]) rfl ?_
          refine lv_if_eq (tgt := 47) hx hb dX12_put__35 (by decide) (fun _ => ?_) (fun c_ => absurd (by decide) c_)
          refine lv_iconst (v := 0) hx hb dX12_put__47 (by decide) ?_
          refine lv_istore (lv' := [(5, .int 0), (0, .ref h0), (1, .int 2), (2, .int 1), (3, .long w0)]) hx hb dX12_put__48 hl (by decide) rfl (fun ls_68 hl_68 => ?_)
          clear hl
          refine lv_iload hx hb dX12_put__50 (lv_at hl_68 0 rfl) ?_
          refine lv_iload_n hx hb dX12_put__52 rfl (lv_at hl_68 3 rfl) ?_
          refine lv_iadd hx hb dX12_put__53 ?_
          refine lv_topi (fun x_69 ex_69 => ?_)
          obtain rfl : x_69 = 1 := ex_69.trans (by decide)
          refine lv_bipush (v := 100) hx hb dX12_put__54 (by decide) ?_
          refine lv_icmp_le (tgt := 62) hx hb dX12_put__56 (by decide) (fun _ => ?_) (fun c_ => absurd (by decide) c_)
          refine lv_iconst (v := 0) hx hb dX12_put__62 (by decide) ?_
          refine lv_istore (lv' := [(6, .int 0), (5, .int 0), (0, .ref h0), (1, .int 2), (2, .int 1), (3, .long w0)]) hx hb dX12_put__63 hl_68 (by decide) rfl (fun ls_70 hl_70 => ?_)
          clear hl_68
          refine lv_iload hx hb dX12_put__65 (lv_at hl_70 0 rfl) ?_
          refine lv_iload_n hx hb dX12_put__67 rfl (lv_at hl_70 4 rfl) ?_
          refine lv_icmp_ge (tgt := 108) hx hb dX12_put__68 (by decide) (fun c_ => absurd c_ (by decide)) (fun _ => ?_)
          refine lv_aload_n hx hb dX12_put__71 rfl (lv_at hl_70 2 rfl) ?_
          refine va_get (D := (dC, dI)) (ci := 15) (v := .ref h50) (C := RX12) (T := TX12) (N := 143) hx hb ht inX12 hown hK_3 hP_3 0 rfl rfl 70 (by decide) (ht _ tw_2210) (fun _ h9 => h9) rfl dX12_put__72 ?_
          refine lv_bipush (v := 100) hx hb dX12_put__75 (by decide) ?_
          refine lv_iload_n hx hb dX12_put__77 rfl (lv_at hl_70 3 rfl) ?_
          refine lv_imul hx hb dX12_put__78 ?_
          refine lv_topi (fun x_71 ex_71 => ?_)
          obtain rfl : x_71 = 200 := ex_71.trans (by decide)
          refine lv_iload hx hb dX12_put__79 (lv_at hl_70 1 rfl) ?_
          refine lv_iadd hx hb dX12_put__81 ?_
          refine lv_topi (fun x_72 ex_72 => ?_)
          obtain rfl : x_72 = 200 := ex_72.trans (by decide)
          refine lv_iload hx hb dX12_put__82 (lv_at hl_70 0 rfl) ?_
          refine lv_iadd hx hb dX12_put__84 ?_
          refine lv_topi (fun x_73 ex_73 => ?_)
          obtain rfl : x_73 = 200 := ex_73.trans (by decide)
          refine lv_lload_n hx hb dX12_put__85 rfl (lv_at hl_70 5 rfl) ?_
          refine lv_bipush (v := 16) hx hb dX12_put__86 (by decide) ?_
          refine lv_iload_n hx hb dX12_put__88 rfl (lv_at hl_70 4 rfl) ?_
          refine lv_iconst (v := 1) hx hb dX12_put__89 (by decide) ?_
          refine lv_isub hx hb dX12_put__90 ?_
          refine lv_topi (fun x_74 ex_74 => ?_)
          obtain rfl : x_74 = 0 := ex_74.trans (by decide)
          refine lv_iload hx hb dX12_put__91 (lv_at hl_70 0 rfl) ?_
          refine lv_isub hx hb dX12_put__93 ?_
          refine lv_topi (fun x_75 ex_75 => ?_)
          obtain rfl : x_75 = 0 := ex_75.trans (by decide)
          refine lv_imul hx hb dX12_put__94 ?_
          refine lv_topi (fun x_76 ex_76 => ?_)
          obtain rfl : x_76 = 0 := ex_76.trans (by decide)
          refine lv_lshr (v := (w0 >>> ((0 : Int32).toInt64 &&& 63))) hx hb dX12_put__95 rfl ?_
          refine lv_ldc2 hx hb hown (ht _ tw_2813) dX12_put__96 ?_
          refine lv_land hx hb dX12_put__99 ?_
          refine lv_l2i (v := ((w0 >>> ((0 : Int32).toInt64 &&& 63)) &&& 65535).toInt32) hx hb dX12_put__100 rfl ?_
          refine va_iast hx hb hK_3 hP_3 hD_3 hS_3 3 2 rfl rfl (i := 200) (vpi (by decide)) dX12_put__101 (fun H_77 locs_77 hP_77 hD_77 hS_77 => ?_)
          have hP_77 : va_P (dC, dI) vwCl [(h0, .inr (15, [.int 0, .int 0, .ref h1, .int 0, .int (-1), .ref h2, .ref h3, .ref h4, .ref h5, .ref h6, .ref h7, .ref h8, .ref h9, .ref h10, .ref h11, .ref h12, .ref h13, .ref h14, .ref h15, .ref h16, .ref h17, .ref h18, .ref h19, .ref h20, .ref h21, .ref h22, .ref h23, .ref h24, .ref h25, .ref h26, .ref h27, .int 0, .ref h28, .ref h29, .int 0, .int 0, .int 0, .int 0, .int 0, .int 0, .ref h30, .int 0, .ref h31, .ref h32, .ref h33, .ref h34, .ref h35, .ref h36, .ref h37, .ref h38, .int 0, .int 0, .int 0, .int 0, .ref h39, .ref h40, .ref h41, .int 0, .ref h42, .int 0, .ref h43, .int 0, .int 0, .ref h44, .ref h45, .ref h46, .int 0, .ref h47, .ref h48, .ref h49, .ref h50, .ref h51, .ref h52, .ref h53, .int 0, .ref h54, .int 0, .ref h55, .ref h56, .ref h57, .int 0, .ref h58, .ref h59, .ref h60, .ref h61, .int 0, .ref h62, .ref h63, .ref h64, .ref h65, .int 0, .int 0, .int 0, .int 0, .int 0, .int 0, .int 0, .int 0, .int 0, .ref h66, .int 0, .ref h67, .int 0, .int 0, .int 0, .int 0, .int 0, .ref h68, .int 0, .int 0, .ref h69, .int 0, .ref h70, .int 0, .ref h71, .ref h72, .int 0, .ref h73, .ref h74, .ref h75, .ref h76, .long 0, .int 0, .ref h77, .ref h78, .ref h79, .ref h80, .ref h81, .ref h82, .ref h83, .ref h84, .ref h85, .ref h86, .ref h87, .ref h88, .ref h89, .ref h90, .ref h91, .int 0, .ref h92, .ref h93, .ref h94, .int 0])), (h48, .inl (k0, 4, .inl (fun _ => 0))), (h49, .inl (k1, 4, .inl (fun _ => 0))), (h50, .inl (k2, 400, .inl (upd (fun _ => 0) 200 (((w0 >>> ((0 : Int32).toInt64 &&& 63)) &&& 65535).toInt32))))] H_77 := hP_77
          have hD_77 : va_D A [(h0, .inr (15, [.int 0, .int 0, .ref h1, .int 0, .int (-1), .ref h2, .ref h3, .ref h4, .ref h5, .ref h6, .ref h7, .ref h8, .ref h9, .ref h10, .ref h11, .ref h12, .ref h13, .ref h14, .ref h15, .ref h16, .ref h17, .ref h18, .ref h19, .ref h20, .ref h21, .ref h22, .ref h23, .ref h24, .ref h25, .ref h26, .ref h27, .int 0, .ref h28, .ref h29, .int 0, .int 0, .int 0, .int 0, .int 0, .int 0, .ref h30, .int 0, .ref h31, .ref h32, .ref h33, .ref h34, .ref h35, .ref h36, .ref h37, .ref h38, .int 0, .int 0, .int 0, .int 0, .ref h39, .ref h40, .ref h41, .int 0, .ref h42, .int 0, .ref h43, .int 0, .int 0, .ref h44, .ref h45, .ref h46, .int 0, .ref h47, .ref h48, .ref h49, .ref h50, .ref h51, .ref h52, .ref h53, .int 0, .ref h54, .int 0, .ref h55, .ref h56, .ref h57, .int 0, .ref h58, .ref h59, .ref h60, .ref h61, .int 0, .ref h62, .ref h63, .ref h64, .ref h65, .int 0, .int 0, .int 0, .int 0, .int 0, .int 0, .int 0, .int 0, .int 0, .ref h66, .int 0, .ref h67, .int 0, .int 0, .int 0, .int 0, .int 0, .ref h68, .int 0, .int 0, .ref h69, .int 0, .ref h70, .int 0, .ref h71, .ref h72, .int 0, .ref h73, .ref h74, .ref h75, .ref h76, .long 0, .int 0, .ref h77, .ref h78, .ref h79, .ref h80, .ref h81, .ref h82, .ref h83, .ref h84, .ref h85, .ref h86, .ref h87, .ref h88, .ref h89, .ref h90, .ref h91, .int 0, .ref h92, .ref h93, .ref h94, .int 0])), (h48, .inl (k0, 4, .inl (fun _ => 0))), (h49, .inl (k1, 4, .inl (fun _ => 0))), (h50, .inl (k2, 400, .inl (upd (fun _ => 0) 200 (((w0 >>> ((0 : Int32).toInt64 &&& 63)) &&& 65535).toInt32))))] := hD_77
          clear hP_3 hD_3 hS_3
          refine lv_iinc (v := 1) (lv' := [(6, .int 1), (5, .int 0), (0, .ref h0), (1, .int 2), (2, .int 1), (3, .long w0)]) hx hb dX12_put__102 hl_70 (k := 0) rfl (by decide) (by decide) rfl (fun ls_78 hl_78 => ?_)
          clear hl_70
          refine lv_goto (tgt := 65) hx hb dX12_put__105 (by decide) ?_
          refine lv_iload hx hb dX12_put__65 (lv_at hl_78 0 rfl) ?_
          refine lv_iload_n hx hb dX12_put__67 rfl (lv_at hl_78 4 rfl) ?_
          refine lv_icmp_ge (tgt := 108) hx hb dX12_put__68 (by decide) (fun _ => ?_) (fun c_ => absurd (by decide) c_)
          refine lv_aload_n hx hb dX12_put__108 rfl (lv_at hl_78 2 rfl) ?_
          refine va_get (D := (dC, dI)) (ci := 15) (v := .ref h48) (C := RX12) (T := TX12) (N := 143) hx hb ht inX12 hown hK_3 hP_77 0 rfl rfl 68 (by decide) (ht _ tw_2208) (fun _ h9 => h9) rfl dX12_put__109 ?_
          refine lv_iload_n hx hb dX12_put__112 rfl (lv_at hl_78 3 rfl) ?_
          refine lv_iconst (v := 1) hx hb dX12_put__113 (by decide) ?_
          refine va_zast hx hb hK_3 hP_77 hD_77 hS_77 1 0 rfl rfl (i := 2) (vpi (by decide)) dX12_put__114 (fun H_79 locs_79 hP_79 hD_79 hS_79 => ?_)
          have hP_79 : va_P (dC, dI) vwCl [(h0, .inr (15, [.int 0, .int 0, .ref h1, .int 0, .int (-1), .ref h2, .ref h3, .ref h4, .ref h5, .ref h6, .ref h7, .ref h8, .ref h9, .ref h10, .ref h11, .ref h12, .ref h13, .ref h14, .ref h15, .ref h16, .ref h17, .ref h18, .ref h19, .ref h20, .ref h21, .ref h22, .ref h23, .ref h24, .ref h25, .ref h26, .ref h27, .int 0, .ref h28, .ref h29, .int 0, .int 0, .int 0, .int 0, .int 0, .int 0, .ref h30, .int 0, .ref h31, .ref h32, .ref h33, .ref h34, .ref h35, .ref h36, .ref h37, .ref h38, .int 0, .int 0, .int 0, .int 0, .ref h39, .ref h40, .ref h41, .int 0, .ref h42, .int 0, .ref h43, .int 0, .int 0, .ref h44, .ref h45, .ref h46, .int 0, .ref h47, .ref h48, .ref h49, .ref h50, .ref h51, .ref h52, .ref h53, .int 0, .ref h54, .int 0, .ref h55, .ref h56, .ref h57, .int 0, .ref h58, .ref h59, .ref h60, .ref h61, .int 0, .ref h62, .ref h63, .ref h64, .ref h65, .int 0, .int 0, .int 0, .int 0, .int 0, .int 0, .int 0, .int 0, .int 0, .ref h66, .int 0, .ref h67, .int 0, .int 0, .int 0, .int 0, .int 0, .ref h68, .int 0, .int 0, .ref h69, .int 0, .ref h70, .int 0, .ref h71, .ref h72, .int 0, .ref h73, .ref h74, .ref h75, .ref h76, .long 0, .int 0, .ref h77, .ref h78, .ref h79, .ref h80, .ref h81, .ref h82, .ref h83, .ref h84, .ref h85, .ref h86, .ref h87, .ref h88, .ref h89, .ref h90, .ref h91, .int 0, .ref h92, .ref h93, .ref h94, .int 0])), (h48, .inl (k0, 4, .inl (upd (fun _ => 0) 2 1))), (h49, .inl (k1, 4, .inl (fun _ => 0))), (h50, .inl (k2, 400, .inl (upd (fun _ => 0) 200 (((w0 >>> ((0 : Int32).toInt64 &&& 63)) &&& 65535).toInt32))))] H_79 := hP_79
          have hD_79 : va_D A [(h0, .inr (15, [.int 0, .int 0, .ref h1, .int 0, .int (-1), .ref h2, .ref h3, .ref h4, .ref h5, .ref h6, .ref h7, .ref h8, .ref h9, .ref h10, .ref h11, .ref h12, .ref h13, .ref h14, .ref h15, .ref h16, .ref h17, .ref h18, .ref h19, .ref h20, .ref h21, .ref h22, .ref h23, .ref h24, .ref h25, .ref h26, .ref h27, .int 0, .ref h28, .ref h29, .int 0, .int 0, .int 0, .int 0, .int 0, .int 0, .ref h30, .int 0, .ref h31, .ref h32, .ref h33, .ref h34, .ref h35, .ref h36, .ref h37, .ref h38, .int 0, .int 0, .int 0, .int 0, .ref h39, .ref h40, .ref h41, .int 0, .ref h42, .int 0, .ref h43, .int 0, .int 0, .ref h44, .ref h45, .ref h46, .int 0, .ref h47, .ref h48, .ref h49, .ref h50, .ref h51, .ref h52, .ref h53, .int 0, .ref h54, .int 0, .ref h55, .ref h56, .ref h57, .int 0, .ref h58, .ref h59, .ref h60, .ref h61, .int 0, .ref h62, .ref h63, .ref h64, .ref h65, .int 0, .int 0, .int 0, .int 0, .int 0, .int 0, .int 0, .int 0, .int 0, .ref h66, .int 0, .ref h67, .int 0, .int 0, .int 0, .int 0, .int 0, .ref h68, .int 0, .int 0, .ref h69, .int 0, .ref h70, .int 0, .ref h71, .ref h72, .int 0, .ref h73, .ref h74, .ref h75, .ref h76, .long 0, .int 0, .ref h77, .ref h78, .ref h79, .ref h80, .ref h81, .ref h82, .ref h83, .ref h84, .ref h85, .ref h86, .ref h87, .ref h88, .ref h89, .ref h90, .ref h91, .int 0, .ref h92, .ref h93, .ref h94, .int 0])), (h48, .inl (k0, 4, .inl (upd (fun _ => 0) 2 1))), (h49, .inl (k1, 4, .inl (fun _ => 0))), (h50, .inl (k2, 400, .inl (upd (fun _ => 0) 200 (((w0 >>> ((0 : Int32).toInt64 &&& 63)) &&& 65535).toInt32))))] := hD_79
          clear hP_77 hD_77 hS_77
          refine lv_aload_n hx hb dX12_put__115 rfl (lv_at hl_78 2 rfl) ?_
          refine va_get (D := (dC, dI)) (ci := 15) (v := .ref h49) (C := RX12) (T := TX12) (N := 143) hx hb ht inX12 hown hK_3 hP_79 0 rfl rfl 69 (by decide) (ht _ tw_2209) (fun _ h9 => h9) rfl dX12_put__116 ?_
          refine lv_iload_n hx hb dX12_put__119 rfl (lv_at hl_78 3 rfl) ?_
          refine lv_iload hx hb dX12_put__120 (lv_at hl_78 1 rfl) ?_
          refine lv_iload_n hx hb dX12_put__122 rfl (lv_at hl_78 4 rfl) ?_
          refine lv_iadd hx hb dX12_put__123 ?_
          refine lv_topi (fun x_80 ex_80 => ?_)
          obtain rfl : x_80 = 1 := ex_80.trans (by decide)
          refine va_iast hx hb hK_3 hP_79 hD_79 hS_79 2 1 rfl rfl (i := 2) (vpi (by decide)) dX12_put__124 (fun H_81 locs_81 hP_81 hD_81 hS_81 => ?_)
          have hP_81 : va_P (dC, dI) vwCl [(h0, .inr (15, [.int 0, .int 0, .ref h1, .int 0, .int (-1), .ref h2, .ref h3, .ref h4, .ref h5, .ref h6, .ref h7, .ref h8, .ref h9, .ref h10, .ref h11, .ref h12, .ref h13, .ref h14, .ref h15, .ref h16, .ref h17, .ref h18, .ref h19, .ref h20, .ref h21, .ref h22, .ref h23, .ref h24, .ref h25, .ref h26, .ref h27, .int 0, .ref h28, .ref h29, .int 0, .int 0, .int 0, .int 0, .int 0, .int 0, .ref h30, .int 0, .ref h31, .ref h32, .ref h33, .ref h34, .ref h35, .ref h36, .ref h37, .ref h38, .int 0, .int 0, .int 0, .int 0, .ref h39, .ref h40, .ref h41, .int 0, .ref h42, .int 0, .ref h43, .int 0, .int 0, .ref h44, .ref h45, .ref h46, .int 0, .ref h47, .ref h48, .ref h49, .ref h50, .ref h51, .ref h52, .ref h53, .int 0, .ref h54, .int 0, .ref h55, .ref h56, .ref h57, .int 0, .ref h58, .ref h59, .ref h60, .ref h61, .int 0, .ref h62, .ref h63, .ref h64, .ref h65, .int 0, .int 0, .int 0, .int 0, .int 0, .int 0, .int 0, .int 0, .int 0, .ref h66, .int 0, .ref h67, .int 0, .int 0, .int 0, .int 0, .int 0, .ref h68, .int 0, .int 0, .ref h69, .int 0, .ref h70, .int 0, .ref h71, .ref h72, .int 0, .ref h73, .ref h74, .ref h75, .ref h76, .long 0, .int 0, .ref h77, .ref h78, .ref h79, .ref h80, .ref h81, .ref h82, .ref h83, .ref h84, .ref h85, .ref h86, .ref h87, .ref h88, .ref h89, .ref h90, .ref h91, .int 0, .ref h92, .ref h93, .ref h94, .int 0])), (h48, .inl (k0, 4, .inl (upd (fun _ => 0) 2 1))), (h49, .inl (k1, 4, .inl (upd (fun _ => 0) 2 1))), (h50, .inl (k2, 400, .inl (upd (fun _ => 0) 200 (((w0 >>> ((0 : Int32).toInt64 &&& 63)) &&& 65535).toInt32))))] H_81 := hP_81
          have hD_81 : va_D A [(h0, .inr (15, [.int 0, .int 0, .ref h1, .int 0, .int (-1), .ref h2, .ref h3, .ref h4, .ref h5, .ref h6, .ref h7, .ref h8, .ref h9, .ref h10, .ref h11, .ref h12, .ref h13, .ref h14, .ref h15, .ref h16, .ref h17, .ref h18, .ref h19, .ref h20, .ref h21, .ref h22, .ref h23, .ref h24, .ref h25, .ref h26, .ref h27, .int 0, .ref h28, .ref h29, .int 0, .int 0, .int 0, .int 0, .int 0, .int 0, .ref h30, .int 0, .ref h31, .ref h32, .ref h33, .ref h34, .ref h35, .ref h36, .ref h37, .ref h38, .int 0, .int 0, .int 0, .int 0, .ref h39, .ref h40, .ref h41, .int 0, .ref h42, .int 0, .ref h43, .int 0, .int 0, .ref h44, .ref h45, .ref h46, .int 0, .ref h47, .ref h48, .ref h49, .ref h50, .ref h51, .ref h52, .ref h53, .int 0, .ref h54, .int 0, .ref h55, .ref h56, .ref h57, .int 0, .ref h58, .ref h59, .ref h60, .ref h61, .int 0, .ref h62, .ref h63, .ref h64, .ref h65, .int 0, .int 0, .int 0, .int 0, .int 0, .int 0, .int 0, .int 0, .int 0, .ref h66, .int 0, .ref h67, .int 0, .int 0, .int 0, .int 0, .int 0, .ref h68, .int 0, .int 0, .ref h69, .int 0, .ref h70, .int 0, .ref h71, .ref h72, .int 0, .ref h73, .ref h74, .ref h75, .ref h76, .long 0, .int 0, .ref h77, .ref h78, .ref h79, .ref h80, .ref h81, .ref h82, .ref h83, .ref h84, .ref h85, .ref h86, .ref h87, .ref h88, .ref h89, .ref h90, .ref h91, .int 0, .ref h92, .ref h93, .ref h94, .int 0])), (h48, .inl (k0, 4, .inl (upd (fun _ => 0) 2 1))), (h49, .inl (k1, 4, .inl (upd (fun _ => 0) 2 1))), (h50, .inl (k2, 400, .inl (upd (fun _ => 0) 200 (((w0 >>> ((0 : Int32).toInt64 &&& 63)) &&& 65535).toInt32))))] := hD_81
          clear hP_79 hD_79 hS_79
          refine lv_aload_n hx hb dX12_put__125 rfl (lv_at hl_78 2 rfl) ?_
          refine lv_aload_n hx hb dX12_put__126 rfl (lv_at hl_78 2 rfl) ?_
          refine va_get (D := (dC, dI)) (ci := 15) (v := .int 0) (C := RX12) (T := TX12) (N := 143) hx hb ht inX12 hown hK_3 hP_81 0 rfl rfl 102 (by decide) (ht _ tw_2242) (fun _ h9 => h9) rfl dX12_put__127 ?_
          refine lv_if_eq (tgt := 145) hx hb dX12_put__130 (by decide) (fun _ => ?_) (fun c_ => absurd (by decide) c_)
          refine lv_iconst (v := 0) hx hb dX12_put__145 (by decide) ?_
          refine va_put (D := (dC, dI)) (ci := 15) (v := .int 0) (ty := .boolean) (C := RX12) (T := TX12) (N := 143) hx hb ht inX12 tyX12 tyX12_ok nmX12 hown hK_3 hP_81 hD_81 hS_81 0 rfl rfl 102 (by decide) (ht _ tw_2242) (fun _ h9 => h9) rfl (by decide +kernel) rfl rfl (Nat.le_of_ble_eq_true rfl) dX12_put__146 (fun H_82 locs_82 hP_82 hD_82 hS_82 => ?_)
          have hP_82 : va_P (dC, dI) vwCl [(h0, .inr (15, [.int 0, .int 0, .ref h1, .int 0, .int (-1), .ref h2, .ref h3, .ref h4, .ref h5, .ref h6, .ref h7, .ref h8, .ref h9, .ref h10, .ref h11, .ref h12, .ref h13, .ref h14, .ref h15, .ref h16, .ref h17, .ref h18, .ref h19, .ref h20, .ref h21, .ref h22, .ref h23, .ref h24, .ref h25, .ref h26, .ref h27, .int 0, .ref h28, .ref h29, .int 0, .int 0, .int 0, .int 0, .int 0, .int 0, .ref h30, .int 0, .ref h31, .ref h32, .ref h33, .ref h34, .ref h35, .ref h36, .ref h37, .ref h38, .int 0, .int 0, .int 0, .int 0, .ref h39, .ref h40, .ref h41, .int 0, .ref h42, .int 0, .ref h43, .int 0, .int 0, .ref h44, .ref h45, .ref h46, .int 0, .ref h47, .ref h48, .ref h49, .ref h50, .ref h51, .ref h52, .ref h53, .int 0, .ref h54, .int 0, .ref h55, .ref h56, .ref h57, .int 0, .ref h58, .ref h59, .ref h60, .ref h61, .int 0, .ref h62, .ref h63, .ref h64, .ref h65, .int 0, .int 0, .int 0, .int 0, .int 0, .int 0, .int 0, .int 0, .int 0, .ref h66, .int 0, .ref h67, .int 0, .int 0, .int 0, .int 0, .int 0, .ref h68, .int 0, .int 0, .ref h69, .int 0, .ref h70, .int 0, .ref h71, .ref h72, .int 0, .ref h73, .ref h74, .ref h75, .ref h76, .long 0, .int 0, .ref h77, .ref h78, .ref h79, .ref h80, .ref h81, .ref h82, .ref h83, .ref h84, .ref h85, .ref h86, .ref h87, .ref h88, .ref h89, .ref h90, .ref h91, .int 0, .ref h92, .ref h93, .ref h94, .int 0])), (h48, .inl (k0, 4, .inl (upd (fun _ => 0) 2 1))), (h49, .inl (k1, 4, .inl (upd (fun _ => 0) 2 1))), (h50, .inl (k2, 400, .inl (upd (fun _ => 0) 200 (((w0 >>> ((0 : Int32).toInt64 &&& 63)) &&& 65535).toInt32))))] H_82 := hP_82
          have hD_82 : va_D A [(h0, .inr (15, [.int 0, .int 0, .ref h1, .int 0, .int (-1), .ref h2, .ref h3, .ref h4, .ref h5, .ref h6, .ref h7, .ref h8, .ref h9, .ref h10, .ref h11, .ref h12, .ref h13, .ref h14, .ref h15, .ref h16, .ref h17, .ref h18, .ref h19, .ref h20, .ref h21, .ref h22, .ref h23, .ref h24, .ref h25, .ref h26, .ref h27, .int 0, .ref h28, .ref h29, .int 0, .int 0, .int 0, .int 0, .int 0, .int 0, .ref h30, .int 0, .ref h31, .ref h32, .ref h33, .ref h34, .ref h35, .ref h36, .ref h37, .ref h38, .int 0, .int 0, .int 0, .int 0, .ref h39, .ref h40, .ref h41, .int 0, .ref h42, .int 0, .ref h43, .int 0, .int 0, .ref h44, .ref h45, .ref h46, .int 0, .ref h47, .ref h48, .ref h49, .ref h50, .ref h51, .ref h52, .ref h53, .int 0, .ref h54, .int 0, .ref h55, .ref h56, .ref h57, .int 0, .ref h58, .ref h59, .ref h60, .ref h61, .int 0, .ref h62, .ref h63, .ref h64, .ref h65, .int 0, .int 0, .int 0, .int 0, .int 0, .int 0, .int 0, .int 0, .int 0, .ref h66, .int 0, .ref h67, .int 0, .int 0, .int 0, .int 0, .int 0, .ref h68, .int 0, .int 0, .ref h69, .int 0, .ref h70, .int 0, .ref h71, .ref h72, .int 0, .ref h73, .ref h74, .ref h75, .ref h76, .long 0, .int 0, .ref h77, .ref h78, .ref h79, .ref h80, .ref h81, .ref h82, .ref h83, .ref h84, .ref h85, .ref h86, .ref h87, .ref h88, .ref h89, .ref h90, .ref h91, .int 0, .ref h92, .ref h93, .ref h94, .int 0])), (h48, .inl (k0, 4, .inl (upd (fun _ => 0) 2 1))), (h49, .inl (k1, 4, .inl (upd (fun _ => 0) 2 1))), (h50, .inl (k2, 400, .inl (upd (fun _ => 0) 200 (((w0 >>> ((0 : Int32).toInt64 &&& 63)) &&& 65535).toInt32))))] := hD_82
          clear hP_81 hD_81 hS_81
          refine lv_iload hx hb dX12_put__149 (lv_at hl_78 1 rfl) ?_
          refine lv_iload_n hx hb dX12_put__151 rfl (lv_at hl_78 4 rfl) ?_
          refine lv_iadd hx hb dX12_put__152 ?_
          refine lv_topi (fun x_83 ex_83 => ?_)
          obtain rfl : x_83 = 1 := ex_83.trans (by decide)
          have hP9 := hP_82.sub (ws' := []) [] rfl
          have hD9 := hD_82.sub (ws' := []) [] (by decide) rfl
          have hK9 := hK_3.sub (tys' := []) [] rfl
          refine W.widen (k := 0) (n := 0) (by decide) (by decide) ?_
          exact W.iret (v := 1) hx hb hr (fun t9 ht9 hW9 => ⟨⟨1, 4, rfl, (Or.inr (Or.inr (Or.inr (Or.inr ⟨rfl, rfl, cc_2_0, cc_2_1, cc_3_0, cc_3_1⟩)))), ⟨by rw [ht9]; exact hP9, va_K.moved hW9.alike hK9, hD9⟩⟩, hS_82.F ht9⟩) hS_82.2.2 dX12_put__153
        · refine va_zald hx hb hK_3 hP_3 1 0 rfl rfl (i := 3) (vpi (by decide)) dX12_put__34 ?_
          refine W.eq (g2 := F0 m 35 ls [.int 0]) rfl ?_
          refine lv_if_eq (tgt := 47) hx hb dX12_put__35 (by decide) (fun _ => ?_) (fun c_ => absurd (by decide) c_)
          refine lv_iconst (v := 0) hx hb dX12_put__47 (by decide) ?_
          refine lv_istore (lv' := [(5, .int 0), (0, .ref h0), (1, .int 3), (2, .int 1), (3, .long w0)]) hx hb dX12_put__48 hl (by decide) rfl (fun ls_84 hl_84 => ?_)
          clear hl
          refine lv_iload hx hb dX12_put__50 (lv_at hl_84 0 rfl) ?_
          refine lv_iload_n hx hb dX12_put__52 rfl (lv_at hl_84 3 rfl) ?_
          refine lv_iadd hx hb dX12_put__53 ?_
          refine lv_topi (fun x_85 ex_85 => ?_)
          obtain rfl : x_85 = 1 := ex_85.trans (by decide)
          refine lv_bipush (v := 100) hx hb dX12_put__54 (by decide) ?_
          refine lv_icmp_le (tgt := 62) hx hb dX12_put__56 (by decide) (fun _ => ?_) (fun c_ => absurd (by decide) c_)
          refine lv_iconst (v := 0) hx hb dX12_put__62 (by decide) ?_
          refine lv_istore (lv' := [(6, .int 0), (5, .int 0), (0, .ref h0), (1, .int 3), (2, .int 1), (3, .long w0)]) hx hb dX12_put__63 hl_84 (by decide) rfl (fun ls_86 hl_86 => ?_)
          clear hl_84
          refine lv_iload hx hb dX12_put__65 (lv_at hl_86 0 rfl) ?_
          refine lv_iload_n hx hb dX12_put__67 rfl (lv_at hl_86 4 rfl) ?_
          refine lv_icmp_ge (tgt := 108) hx hb dX12_put__68 (by decide) (fun c_ => absurd c_ (by decide)) (fun _ => ?_)
          refine lv_aload_n hx hb dX12_put__71 rfl (lv_at hl_86 2 rfl) ?_
          refine va_get (D := (dC, dI)) (ci := 15) (v := .ref h50) (C := RX12) (T := TX12) (N := 143) hx hb ht inX12 hown hK_3 hP_3 0 rfl rfl 70 (by decide) (ht _ tw_2210) (fun _ h9 => h9) rfl dX12_put__72 ?_
          refine lv_bipush (v := 100) hx hb dX12_put__75 (by decide) ?_
          refine lv_iload_n hx hb dX12_put__77 rfl (lv_at hl_86 3 rfl) ?_
          refine lv_imul hx hb dX12_put__78 ?_
          refine lv_topi (fun x_87 ex_87 => ?_)
          obtain rfl : x_87 = 300 := ex_87.trans (by decide)
          refine lv_iload hx hb dX12_put__79 (lv_at hl_86 1 rfl) ?_
          refine lv_iadd hx hb dX12_put__81 ?_
          refine lv_topi (fun x_88 ex_88 => ?_)
          obtain rfl : x_88 = 300 := ex_88.trans (by decide)
          refine lv_iload hx hb dX12_put__82 (lv_at hl_86 0 rfl) ?_
          refine lv_iadd hx hb dX12_put__84 ?_
          refine lv_topi (fun x_89 ex_89 => ?_)
          obtain rfl : x_89 = 300 := ex_89.trans (by decide)
          refine lv_lload_n hx hb dX12_put__85 rfl (lv_at hl_86 5 rfl) ?_
          refine lv_bipush (v := 16) hx hb dX12_put__86 (by decide) ?_
          refine lv_iload_n hx hb dX12_put__88 rfl (lv_at hl_86 4 rfl) ?_
          refine lv_iconst (v := 1) hx hb dX12_put__89 (by decide) ?_
          refine lv_isub hx hb dX12_put__90 ?_
          refine lv_topi (fun x_90 ex_90 => ?_)
          obtain rfl : x_90 = 0 := ex_90.trans (by decide)
          refine lv_iload hx hb dX12_put__91 (lv_at hl_86 0 rfl) ?_
          refine lv_isub hx hb dX12_put__93 ?_
          refine lv_topi (fun x_91 ex_91 => ?_)
          obtain rfl : x_91 = 0 := ex_91.trans (by decide)
          refine lv_imul hx hb dX12_put__94 ?_
          refine lv_topi (fun x_92 ex_92 => ?_)
          obtain rfl : x_92 = 0 := ex_92.trans (by decide)
          refine lv_lshr (v := (w0 >>> ((0 : Int32).toInt64 &&& 63))) hx hb dX12_put__95 rfl ?_
          refine lv_ldc2 hx hb hown (ht _ tw_2813) dX12_put__96 ?_
          refine lv_land hx hb dX12_put__99 ?_
          refine lv_l2i (v := ((w0 >>> ((0 : Int32).toInt64 &&& 63)) &&& 65535).toInt32) hx hb dX12_put__100 rfl ?_
          refine va_iast hx hb hK_3 hP_3 hD_3 hS_3 3 2 rfl rfl (i := 300) (vpi (by decide)) dX12_put__101 (fun H_93 locs_93 hP_93 hD_93 hS_93 => ?_)
          have hP_93 : va_P (dC, dI) vwCl [(h0, .inr (15, [.int 0, .int 0, .ref h1, .int 0, .int (-1), .ref h2, .ref h3, .ref h4, .ref h5, .ref h6, .ref h7, .ref h8, .ref h9, .ref h10, .ref h11, .ref h12, .ref h13, .ref h14, .ref h15, .ref h16, .ref h17, .ref h18, .ref h19, .ref h20, .ref h21, .ref h22, .ref h23, .ref h24, .ref h25, .ref h26, .ref h27, .int 0, .ref h28, .ref h29, .int 0, .int 0, .int 0, .int 0, .int 0, .int 0, .ref h30, .int 0, .ref h31, .ref h32, .ref h33, .ref h34, .ref h35, .ref h36, .ref h37, .ref h38, .int 0, .int 0, .int 0, .int 0, .ref h39, .ref h40, .ref h41, .int 0, .ref h42, .int 0, .ref h43, .int 0, .int 0, .ref h44, .ref h45, .ref h46, .int 0, .ref h47, .ref h48, .ref h49, .ref h50, .ref h51, .ref h52, .ref h53, .int 0, .ref h54, .int 0, .ref h55, .ref h56, .ref h57, .int 0, .ref h58, .ref h59, .ref h60, .ref h61, .int 0, .ref h62, .ref h63, .ref h64, .ref h65, .int 0, .int 0, .int 0, .int 0, .int 0, .int 0, .int 0, .int 0, .int 0, .ref h66, .int 0, .ref h67, .int 0, .int 0, .int 0, .int 0, .int 0, .ref h68, .int 0, .int 0, .ref h69, .int 0, .ref h70, .int 0, .ref h71, .ref h72, .int 0, .ref h73, .ref h74, .ref h75, .ref h76, .long 0, .int 0, .ref h77, .ref h78, .ref h79, .ref h80, .ref h81, .ref h82, .ref h83, .ref h84, .ref h85, .ref h86, .ref h87, .ref h88, .ref h89, .ref h90, .ref h91, .int 0, .ref h92, .ref h93, .ref h94, .int 0])), (h48, .inl (k0, 4, .inl (fun _ => 0))), (h49, .inl (k1, 4, .inl (fun _ => 0))), (h50, .inl (k2, 400, .inl (upd (fun _ => 0) 300 (((w0 >>> ((0 : Int32).toInt64 &&& 63)) &&& 65535).toInt32))))] H_93 := hP_93
          have hD_93 : va_D A [(h0, .inr (15, [.int 0, .int 0, .ref h1, .int 0, .int (-1), .ref h2, .ref h3, .ref h4, .ref h5, .ref h6, .ref h7, .ref h8, .ref h9, .ref h10, .ref h11, .ref h12, .ref h13, .ref h14, .ref h15, .ref h16, .ref h17, .ref h18, .ref h19, .ref h20, .ref h21, .ref h22, .ref h23, .ref h24, .ref h25, .ref h26, .ref h27, .int 0, .ref h28, .ref h29, .int 0, .int 0, .int 0, .int 0, .int 0, .int 0, .ref h30, .int 0, .ref h31, .ref h32, .ref h33, .ref h34, .ref h35, .ref h36, .ref h37, .ref h38, .int 0, .int 0, .int 0, .int 0, .ref h39, .ref h40, .ref h41, .int 0, .ref h42, .int 0, .ref h43, .int 0, .int 0, .ref h44, .ref h45, .ref h46, .int 0, .ref h47, .ref h48, .ref h49, .ref h50, .ref h51, .ref h52, .ref h53, .int 0, .ref h54, .int 0, .ref h55, .ref h56, .ref h57, .int 0, .ref h58, .ref h59, .ref h60, .ref h61, .int 0, .ref h62, .ref h63, .ref h64, .ref h65, .int 0, .int 0, .int 0, .int 0, .int 0, .int 0, .int 0, .int 0, .int 0, .ref h66, .int 0, .ref h67, .int 0, .int 0, .int 0, .int 0, .int 0, .ref h68, .int 0, .int 0, .ref h69, .int 0, .ref h70, .int 0, .ref h71, .ref h72, .int 0, .ref h73, .ref h74, .ref h75, .ref h76, .long 0, .int 0, .ref h77, .ref h78, .ref h79, .ref h80, .ref h81, .ref h82, .ref h83, .ref h84, .ref h85, .ref h86, .ref h87, .ref h88, .ref h89, .ref h90, .ref h91, .int 0, .ref h92, .ref h93, .ref h94, .int 0])), (h48, .inl (k0, 4, .inl (fun _ => 0))), (h49, .inl (k1, 4, .inl (fun _ => 0))), (h50, .inl (k2, 400, .inl (upd (fun _ => 0) 300 (((w0 >>> ((0 : Int32).toInt64 &&& 63)) &&& 65535).toInt32))))] := hD_93
          clear hP_3 hD_3 hS_3
          refine lv_iinc (v := 1) (lv' := [(6, .int 1), (5, .int 0), (0, .ref h0), (1, .int 3), (2, .int 1), (3, .long w0)]) hx hb dX12_put__102 hl_86 (k := 0) rfl (by decide) (by decide) rfl (fun ls_94 hl_94 => ?_)
          clear hl_86
          refine lv_goto (tgt := 65) hx hb dX12_put__105 (by decide) ?_
          refine lv_iload hx hb dX12_put__65 (lv_at hl_94 0 rfl) ?_
          refine lv_iload_n hx hb dX12_put__67 rfl (lv_at hl_94 4 rfl) ?_
          refine lv_icmp_ge (tgt := 108) hx hb dX12_put__68 (by decide) (fun _ => ?_) (fun c_ => absurd (by decide) c_)
          refine lv_aload_n hx hb dX12_put__108 rfl (lv_at hl_94 2 rfl) ?_
          refine va_get (D := (dC, dI)) (ci := 15) (v := .ref h48) (C := RX12) (T := TX12) (N := 143) hx hb ht inX12 hown hK_3 hP_93 0 rfl rfl 68 (by decide) (ht _ tw_2208) (fun _ h9 => h9) rfl dX12_put__109 ?_
          refine lv_iload_n hx hb dX12_put__112 rfl (lv_at hl_94 3 rfl) ?_
          refine lv_iconst (v := 1) hx hb dX12_put__113 (by decide) ?_
          refine va_zast hx hb hK_3 hP_93 hD_93 hS_93 1 0 rfl rfl (i := 3) (vpi (by decide)) dX12_put__114 (fun H_95 locs_95 hP_95 hD_95 hS_95 => ?_)
          have hP_95 : va_P (dC, dI) vwCl [(h0, .inr (15, [.int 0, .int 0, .ref h1, .int 0, .int (-1), .ref h2, .ref h3, .ref h4, .ref h5, .ref h6, .ref h7, .ref h8, .ref h9, .ref h10, .ref h11, .ref h12, .ref h13, .ref h14, .ref h15, .ref h16, .ref h17, .ref h18, .ref h19, .ref h20, .ref h21, .ref h22, .ref h23, .ref h24, .ref h25, .ref h26, .ref h27, .int 0, .ref h28, .ref h29, .int 0, .int 0, .int 0, .int 0, .int 0, .int 0, .ref h30, .int 0, .ref h31, .ref h32, .ref h33, .ref h34, .ref h35, .ref h36, .ref h37, .ref h38, .int 0, .int 0, .int 0, .int 0, .ref h39, .ref h40, .ref h41, .int 0, .ref h42, .int 0, .ref h43, .int 0, .int 0, .ref h44, .ref h45, .ref h46, .int 0, .ref h47, .ref h48, .ref h49, .ref h50, .ref h51, .ref h52, .ref h53, .int 0, .ref h54, .int 0, .ref h55, .ref h56, .ref h57, .int 0, .ref h58, .ref h59, .ref h60, .ref h61, .int 0, .ref h62, .ref h63, .ref h64, .ref h65, .int 0, .int 0, .int 0, .int 0, .int 0, .int 0, .int 0, .int 0, .int 0, .ref h66, .int 0, .ref h67, .int 0, .int 0, .int 0, .int 0, .int 0, .ref h68, .int 0, .int 0, .ref h69, .int 0, .ref h70, .int 0, .ref h71, .ref h72, .int 0, .ref h73, .ref h74, .ref h75, .ref h76, .long 0, .int 0, .ref h77, .ref h78, .ref h79, .ref h80, .ref h81, .ref h82, .ref h83, .ref h84, .ref h85, .ref h86, .ref h87, .ref h88, .ref h89, .ref h90, .ref h91, .int 0, .ref h92, .ref h93, .ref h94, .int 0])), (h48, .inl (k0, 4, .inl (upd (fun _ => 0) 3 1))), (h49, .inl (k1, 4, .inl (fun _ => 0))), (h50, .inl (k2, 400, .inl (upd (fun _ => 0) 300 (((w0 >>> ((0 : Int32).toInt64 &&& 63)) &&& 65535).toInt32))))] H_95 := hP_95
          have hD_95 : va_D A [(h0, .inr (15, [.int 0, .int 0, .ref h1, .int 0, .int (-1), .ref h2, .ref h3, .ref h4, .ref h5, .ref h6, .ref h7, .ref h8, .ref h9, .ref h10, .ref h11, .ref h12, .ref h13, .ref h14, .ref h15, .ref h16, .ref h17, .ref h18, .ref h19, .ref h20, .ref h21, .ref h22, .ref h23, .ref h24, .ref h25, .ref h26, .ref h27, .int 0, .ref h28, .ref h29, .int 0, .int 0, .int 0, .int 0, .int 0, .int 0, .ref h30, .int 0, .ref h31, .ref h32, .ref h33, .ref h34, .ref h35, .ref h36, .ref h37, .ref h38, .int 0, .int 0, .int 0, .int 0, .ref h39, .ref h40, .ref h41, .int 0, .ref h42, .int 0, .ref h43, .int 0, .int 0, .ref h44, .ref h45, .ref h46, .int 0, .ref h47, .ref h48, .ref h49, .ref h50, .ref h51, .ref h52, .ref h53, .int 0, .ref h54, .int 0, .ref h55, .ref h56, .ref h57, .int 0, .ref h58, .ref h59, .ref h60, .ref h61, .int 0, .ref h62, .ref h63, .ref h64, .ref h65, .int 0, .int 0, .int 0, .int 0, .int 0, .int 0, .int 0, .int 0, .int 0, .ref h66, .int 0, .ref h67, .int 0, .int 0, .int 0, .int 0, .int 0, .ref h68, .int 0, .int 0, .ref h69, .int 0, .ref h70, .int 0, .ref h71, .ref h72, .int 0, .ref h73, .ref h74, .ref h75, .ref h76, .long 0, .int 0, .ref h77, .ref h78, .ref h79, .ref h80, .ref h81, .ref h82, .ref h83, .ref h84, .ref h85, .ref h86, .ref h87, .ref h88, .ref h89, .ref h90, .ref h91, .int 0, .ref h92, .ref h93, .ref h94, .int 0])), (h48, .inl (k0, 4, .inl (upd (fun _ => 0) 3 1))), (h49, .inl (k1, 4, .inl (fun _ => 0))), (h50, .inl (k2, 400, .inl (upd (fun _ => 0) 300 (((w0 >>> ((0 : Int32).toInt64 &&& 63)) &&& 65535).toInt32))))] := hD_95
          clear hP_93 hD_93 hS_93
          refine lv_aload_n hx hb dX12_put__115 rfl (lv_at hl_94 2 rfl) ?_
          refine va_get (D := (dC, dI)) (ci := 15) (v := .ref h49) (C := RX12) (T := TX12) (N := 143) hx hb ht inX12 hown hK_3 hP_95 0 rfl rfl 69 (by decide) (ht _ tw_2209) (fun _ h9 => h9) rfl dX12_put__116 ?_
          refine lv_iload_n hx hb dX12_put__119 rfl (lv_at hl_94 3 rfl) ?_
          refine lv_iload hx hb dX12_put__120 (lv_at hl_94 1 rfl) ?_
          refine lv_iload_n hx hb dX12_put__122 rfl (lv_at hl_94 4 rfl) ?_
          refine lv_iadd hx hb dX12_put__123 ?_
          refine lv_topi (fun x_96 ex_96 => ?_)
          obtain rfl : x_96 = 1 := ex_96.trans (by decide)
          refine va_iast hx hb hK_3 hP_95 hD_95 hS_95 2 1 rfl rfl (i := 3) (vpi (by decide)) dX12_put__124 (fun H_97 locs_97 hP_97 hD_97 hS_97 => ?_)
          have hP_97 : va_P (dC, dI) vwCl [(h0, .inr (15, [.int 0, .int 0, .ref h1, .int 0, .int (-1), .ref h2, .ref h3, .ref h4, .ref h5, .ref h6, .ref h7, .ref h8, .ref h9, .ref h10, .ref h11, .ref h12, .ref h13, .ref h14, .ref h15, .ref h16, .ref h17, .ref h18, .ref h19, .ref h20, .ref h21, .ref h22, .ref h23, .ref h24, .ref h25, .ref h26, .ref h27, .int 0, .ref h28, .ref h29, .int 0, .int 0, .int 0, .int 0, .int 0, .int 0, .ref h30, .int 0, .ref h31, .ref h32, .ref h33, .ref h34, .ref h35, .ref h36, .ref h37, .ref h38, .int 0, .int 0, .int 0, .int 0, .ref h39, .ref h40, .ref h41, .int 0, .ref h42, .int 0, .ref h43, .int 0, .int 0, .ref h44, .ref h45, .ref h46, .int 0, .ref h47, .ref h48, .ref h49, .ref h50, .ref h51, .ref h52, .ref h53, .int 0, .ref h54, .int 0, .ref h55, .ref h56, .ref h57, .int 0, .ref h58, .ref h59, .ref h60, .ref h61, .int 0, .ref h62, .ref h63, .ref h64, .ref h65, .int 0, .int 0, .int 0, .int 0, .int 0, .int 0, .int 0, .int 0, .int 0, .ref h66, .int 0, .ref h67, .int 0, .int 0, .int 0, .int 0, .int 0, .ref h68, .int 0, .int 0, .ref h69, .int 0, .ref h70, .int 0, .ref h71, .ref h72, .int 0, .ref h73, .ref h74, .ref h75, .ref h76, .long 0, .int 0, .ref h77, .ref h78, .ref h79, .ref h80, .ref h81, .ref h82, .ref h83, .ref h84, .ref h85, .ref h86, .ref h87, .ref h88, .ref h89, .ref h90, .ref h91, .int 0, .ref h92, .ref h93, .ref h94, .int 0])), (h48, .inl (k0, 4, .inl (upd (fun _ => 0) 3 1))), (h49, .inl (k1, 4, .inl (upd (fun _ => 0) 3 1))), (h50, .inl (k2, 400, .inl (upd (fun _ => 0) 300 (((w0 >>> ((0 : Int32).toInt64 &&& 63)) &&& 65535).toInt32))))] H_97 := hP_97
          have hD_97 : va_D A [(h0, .inr (15, [.int 0, .int 0, .ref h1, .int 0, .int (-1), .ref h2, .ref h3, .ref h4, .ref h5, .ref h6, .ref h7, .ref h8, .ref h9, .ref h10, .ref h11, .ref h12, .ref h13, .ref h14, .ref h15, .ref h16, .ref h17, .ref h18, .ref h19, .ref h20, .ref h21, .ref h22, .ref h23, .ref h24, .ref h25, .ref h26, .ref h27, .int 0, .ref h28, .ref h29, .int 0, .int 0, .int 0, .int 0, .int 0, .int 0, .ref h30, .int 0, .ref h31, .ref h32, .ref h33, .ref h34, .ref h35, .ref h36, .ref h37, .ref h38, .int 0, .int 0, .int 0, .int 0, .ref h39, .ref h40, .ref h41, .int 0, .ref h42, .int 0, .ref h43, .int 0, .int 0, .ref h44, .ref h45, .ref h46, .int 0, .ref h47, .ref h48, .ref h49, .ref h50, .ref h51, .ref h52, .ref h53, .int 0, .ref h54, .int 0, .ref h55, .ref h56, .ref h57, .int 0, .ref h58, .ref h59, .ref h60, .ref h61, .int 0, .ref h62, .ref h63, .ref h64, .ref h65, .int 0, .int 0, .int 0, .int 0, .int 0, .int 0, .int 0, .int 0, .int 0, .ref h66, .int 0, .ref h67, .int 0, .int 0, .int 0, .int 0, .int 0, .ref h68, .int 0, .int 0, .ref h69, .int 0, .ref h70, .int 0, .ref h71, .ref h72, .int 0, .ref h73, .ref h74, .ref h75, .ref h76, .long 0, .int 0, .ref h77, .ref h78, .ref h79, .ref h80, .ref h81, .ref h82, .ref h83, .ref h84, .ref h85, .ref h86, .ref h87, .ref h88, .ref h89, .ref h90, .ref h91, .int 0, .ref h92, .ref h93, .ref h94, .int 0])), (h48, .inl (k0, 4, .inl (upd (fun _ => 0) 3 1))), (h49, .inl (k1, 4, .inl (upd (fun _ => 0) 3 1))), (h50, .inl (k2, 400, .inl (upd (fun _ => 0) 300 (((w0 >>> ((0 : Int32).toInt64 &&& 63)) &&& 65535).toInt32))))] := hD_97
          clear hP_95 hD_95 hS_95
          refine lv_aload_n hx hb dX12_put__125 rfl (lv_at hl_94 2 rfl) ?_
          refine lv_aload_n hx hb dX12_put__126 rfl (lv_at hl_94 2 rfl) ?_
          refine va_get (D := (dC, dI)) (ci := 15) (v := .int 0) (C := RX12) (T := TX12) (N := 143) hx hb ht inX12 hown hK_3 hP_97 0 rfl rfl 102 (by decide) (ht _ tw_2242) (fun _ h9 => h9) rfl dX12_put__127 ?_
          refine lv_if_eq (tgt := 145) hx hb dX12_put__130 (by decide) (fun _ => ?_) (fun c_ => absurd (by decide) c_)
          refine lv_iconst (v := 0) hx hb dX12_put__145 (by decide) ?_
          refine va_put (D := (dC, dI)) (ci := 15) (v := .int 0) (ty := .boolean) (C := RX12) (T := TX12) (N := 143) hx hb ht inX12 tyX12 tyX12_ok nmX12 hown hK_3 hP_97 hD_97 hS_97 0 rfl rfl 102 (by decide) (ht _ tw_2242) (fun _ h9 => h9) rfl (by decide +kernel) rfl rfl (Nat.le_of_ble_eq_true rfl) dX12_put__146 (fun H_98 locs_98 hP_98 hD_98 hS_98 => ?_)
          have hP_98 : va_P (dC, dI) vwCl [(h0, .inr (15, [.int 0, .int 0, .ref h1, .int 0, .int (-1), .ref h2, .ref h3, .ref h4, .ref h5, .ref h6, .ref h7, .ref h8, .ref h9, .ref h10, .ref h11, .ref h12, .ref h13, .ref h14, .ref h15, .ref h16, .ref h17, .ref h18, .ref h19, .ref h20, .ref h21, .ref h22, .ref h23, .ref h24, .ref h25, .ref h26, .ref h27, .int 0, .ref h28, .ref h29, .int 0, .int 0, .int 0, .int 0, .int 0, .int 0, .ref h30, .int 0, .ref h31, .ref h32, .ref h33, .ref h34, .ref h35, .ref h36, .ref h37, .ref h38, .int 0, .int 0, .int 0, .int 0, .ref h39, .ref h40, .ref h41, .int 0, .ref h42, .int 0, .ref h43, .int 0, .int 0, .ref h44, .ref h45, .ref h46, .int 0, .ref h47, .ref h48, .ref h49, .ref h50, .ref h51, .ref h52, .ref h53, .int 0, .ref h54, .int 0, .ref h55, .ref h56, .ref h57, .int 0, .ref h58, .ref h59, .ref h60, .ref h61, .int 0, .ref h62, .ref h63, .ref h64, .ref h65, .int 0, .int 0, .int 0, .int 0, .int 0, .int 0, .int 0, .int 0, .int 0, .ref h66, .int 0, .ref h67, .int 0, .int 0, .int 0, .int 0, .int 0, .ref h68, .int 0, .int 0, .ref h69, .int 0, .ref h70, .int 0, .ref h71, .ref h72, .int 0, .ref h73, .ref h74, .ref h75, .ref h76, .long 0, .int 0, .ref h77, .ref h78, .ref h79, .ref h80, .ref h81, .ref h82, .ref h83, .ref h84, .ref h85, .ref h86, .ref h87, .ref h88, .ref h89, .ref h90, .ref h91, .int 0, .ref h92, .ref h93, .ref h94, .int 0])), (h48, .inl (k0, 4, .inl (upd (fun _ => 0) 3 1))), (h49, .inl (k1, 4, .inl (upd (fun _ => 0) 3 1))), (h50, .inl (k2, 400, .inl (upd (fun _ => 0) 300 (((w0 >>> ((0 : Int32).toInt64 &&& 63)) &&& 65535).toInt32))))] H_98 := hP_98
          have hD_98 : va_D A [(h0, .inr (15, [.int 0, .int 0, .ref h1, .int 0, .int (-1), .ref h2, .ref h3, .ref h4, .ref h5, .ref h6, .ref h7, .ref h8, .ref h9, .ref h10, .ref h11, .ref h12, .ref h13, .ref h14, .ref h15, .ref h16, .ref h17, .ref h18, .ref h19, .ref h20, .ref h21, .ref h22, .ref h23, .ref h24, .ref h25, .ref h26, .ref h27, .int 0, .ref h28, .ref h29, .int 0, .int 0, .int 0, .int 0, .int 0, .int 0, .ref h30, .int 0, .ref h31, .ref h32, .ref h33, .ref h34, .ref h35, .ref h36, .ref h37, .ref h38, .int 0, .int 0, .int 0, .int 0, .ref h39, .ref h40, .ref h41, .int 0, .ref h42, .int 0, .ref h43, .int 0, .int 0, .ref h44, .ref h45, .ref h46, .int 0, .ref h47, .ref h48, .ref h49, .ref h50, .ref h51, .ref h52, .ref h53, .int 0, .ref h54, .int 0, .ref h55, .ref h56, .ref h57, .int 0, .ref h58, .ref h59, .ref h60, .ref h61, .int 0, .ref h62, .ref h63, .ref h64, .ref h65, .int 0, .int 0, .int 0, .int 0, .int 0, .int 0, .int 0, .int 0, .int 0, .ref h66, .int 0, .ref h67, .int 0, .int 0, .int 0, .int 0, .int 0, .ref h68, .int 0, .int 0, .ref h69, .int 0, .ref h70, .int 0, .ref h71, .ref h72, .int 0, .ref h73, .ref h74, .ref h75, .ref h76, .long 0, .int 0, .ref h77, .ref h78, .ref h79, .ref h80, .ref h81, .ref h82, .ref h83, .ref h84, .ref h85, .ref h86, .ref h87, .ref h88, .ref h89, .ref h90, .ref h91, .int 0, .ref h92, .ref h93, .ref h94, .int 0])), (h48, .inl (k0, 4, .inl (upd (fun _ => 0) 3 1))), (h49, .inl (k1, 4, .inl (upd (fun _ => 0) 3 1))), (h50, .inl (k2, 400, .inl (upd (fun _ => 0) 300 (((w0 >>> ((0 : Int32).toInt64 &&& 63)) &&& 65535).toInt32))))] := hD_98
          clear hP_97 hD_97 hS_97
          refine lv_iload hx hb dX12_put__149 (lv_at hl_94 1 rfl) ?_
          refine lv_iload_n hx hb dX12_put__151 rfl (lv_at hl_94 4 rfl) ?_
          refine lv_iadd hx hb dX12_put__152 ?_
          refine lv_topi (fun x_99 ex_99 => ?_)
          obtain rfl : x_99 = 1 := ex_99.trans (by decide)
          have hP9 := hP_98.sub (ws' := []) [] rfl
          have hD9 := hD_98.sub (ws' := []) [] (by decide) rfl
          have hK9 := hK_3.sub (tys' := []) [] rfl
          refine W.widen (k := 0) (n := 0) (by decide) (by decide) ?_
          exact W.iret (v := 1) hx hb hr (fun t9 ht9 hW9 => ⟨⟨1, 4, rfl, (Or.inr (Or.inr (Or.inr (Or.inr ⟨rfl, rfl, cc_2_0, cc_2_1, cc_3_0, cc_3_1⟩)))), ⟨by rw [ht9]; exact hP9, va_K.moved hW9.alike hK9, hD9⟩⟩, hS_98.F ht9⟩) hS_98.2.2 dX12_put__153
      · refine lv_aload_n hx hb dX12_put__29 rfl (lv_at hl 0 rfl) ?_
        refine va_get (D := (dC, dI)) (ci := 15) (v := .ref h48) (C := RX12) (T := TX12) (N := 143) hx hb ht inX12 hown hK_3 hP_3 0 rfl rfl 68 (by decide) (ht _ tw_2208) (fun _ h9 => h9) rfl dX12_put__30 ?_
        refine lv_iload_n hx hb dX12_put__33 rfl (lv_at hl 1 rfl) ?_
        rcases sp_4 cc_2_0 cc_2_1 with rfl | rfl | rfl | rfl
        · refine va_zald hx hb hK_3 hP_3 1 0 rfl rfl (i := 0) (vpi (by decide)) dX12_put__34 ?_
          refine W.eq (g2 := F0 m 35 ls [.int 0]) rfl ?_
          refine lv_if_eq (tgt := 47) hx hb dX12_put__35 (by decide) (fun _ => ?_) (fun c_ => absurd (by decide) c_)
          refine lv_iconst (v := 0) hx hb dX12_put__47 (by decide) ?_
          refine lv_istore (lv' := [(5, .int 0), (0, .ref h0), (1, .int 0), (2, .int 2), (3, .long w0)]) hx hb dX12_put__48 hl (by decide) rfl (fun ls_100 hl_100 => ?_)
          clear hl
          refine lv_iload hx hb dX12_put__50 (lv_at hl_100 0 rfl) ?_
          refine lv_iload_n hx hb dX12_put__52 rfl (lv_at hl_100 3 rfl) ?_
          refine lv_iadd hx hb dX12_put__53 ?_
          refine lv_topi (fun x_101 ex_101 => ?_)
          obtain rfl : x_101 = 2 := ex_101.trans (by decide)
          refine lv_bipush (v := 100) hx hb dX12_put__54 (by decide) ?_
          refine lv_icmp_le (tgt := 62) hx hb dX12_put__56 (by decide) (fun _ => ?_) (fun c_ => absurd (by decide) c_)
          refine lv_iconst (v := 0) hx hb dX12_put__62 (by decide) ?_
          refine lv_istore (lv' := [(6, .int 0), (5, .int 0), (0, .ref h0), (1, .int 0), (2, .int 2), (3, .long w0)]) hx hb dX12_put__63 hl_100 (by decide) rfl (fun ls_102 hl_102 => ?_)
          clear hl_100
          refine lv_iload hx hb dX12_put__65 (lv_at hl_102 0 rfl) ?_
          refine lv_iload_n hx hb dX12_put__67 rfl (lv_at hl_102 4 rfl) ?_
          refine lv_icmp_ge (tgt := 108) hx hb dX12_put__68 (by decide) (fun c_ => absurd c_ (by decide)) (fun _ => ?_)
          refine lv_aload_n hx hb dX12_put__71 rfl (lv_at hl_102 2 rfl) ?_
          refine va_get (D := (dC, dI)) (ci := 15) (v := .ref h50) (C := RX12) (T := TX12) (N := 143) hx hb ht inX12 hown hK_3 hP_3 0 rfl rfl 70 (by decide) (ht _ tw_2210) (fun _ h9 => h9) rfl dX12_put__72 ?_
          refine lv_bipush (v := 100) hx hb dX12_put__75 (by decide) ?_
          refine lv_iload_n hx hb dX12_put__77 rfl (lv_at hl_102 3 rfl) ?_
          refine lv_imul hx hb dX12_put__78 ?_
          refine lv_topi (fun x_103 ex_103 => ?_)
          obtain rfl : x_103 = 0 := ex_103.trans (by decide)
          refine lv_iload hx hb dX12_put__79 (lv_at hl_102 1 rfl) ?_
          refine lv_iadd hx hb dX12_put__81 ?_
          refine lv_topi (fun x_104 ex_104 => ?_)
          obtain rfl : x_104 = 0 := ex_104.trans (by decide)
          refine lv_iload hx hb dX12_put__82 (lv_at hl_102 0 rfl) ?_
          refine lv_iadd hx hb dX12_put__84 ?_
          refine lv_topi (fun x_105 ex_105 => ?_)
          obtain rfl : x_105 = 0 := ex_105.trans (by decide)
          refine lv_lload_n hx hb dX12_put__85 rfl (lv_at hl_102 5 rfl) ?_
          refine lv_bipush (v := 16) hx hb dX12_put__86 (by decide) ?_
          refine lv_iload_n hx hb dX12_put__88 rfl (lv_at hl_102 4 rfl) ?_
          refine lv_iconst (v := 1) hx hb dX12_put__89 (by decide) ?_
          refine lv_isub hx hb dX12_put__90 ?_
          refine lv_topi (fun x_106 ex_106 => ?_)
          obtain rfl : x_106 = 1 := ex_106.trans (by decide)
          refine lv_iload hx hb dX12_put__91 (lv_at hl_102 0 rfl) ?_
          refine lv_isub hx hb dX12_put__93 ?_
          refine lv_topi (fun x_107 ex_107 => ?_)
          obtain rfl : x_107 = 1 := ex_107.trans (by decide)
          refine lv_imul hx hb dX12_put__94 ?_
          refine lv_topi (fun x_108 ex_108 => ?_)
          obtain rfl : x_108 = 16 := ex_108.trans (by decide)
          refine lv_lshr (v := (w0 >>> ((16 : Int32).toInt64 &&& 63))) hx hb dX12_put__95 rfl ?_
          refine lv_ldc2 hx hb hown (ht _ tw_2813) dX12_put__96 ?_
          refine lv_land hx hb dX12_put__99 ?_
          refine lv_l2i (v := ((w0 >>> ((16 : Int32).toInt64 &&& 63)) &&& 65535).toInt32) hx hb dX12_put__100 rfl ?_
          refine va_iast hx hb hK_3 hP_3 hD_3 hS_3 3 2 rfl rfl (i := 0) (vpi (by decide)) dX12_put__101 (fun H_109 locs_109 hP_109 hD_109 hS_109 => ?_)
          have hP_109 : va_P (dC, dI) vwCl [(h0, .inr (15, [.int 0, .int 0, .ref h1, .int 0, .int (-1), .ref h2, .ref h3, .ref h4, .ref h5, .ref h6, .ref h7, .ref h8, .ref h9, .ref h10, .ref h11, .ref h12, .ref h13, .ref h14, .ref h15, .ref h16, .ref h17, .ref h18, .ref h19, .ref h20, .ref h21, .ref h22, .ref h23, .ref h24, .ref h25, .ref h26, .ref h27, .int 0, .ref h28, .ref h29, .int 0, .int 0, .int 0, .int 0, .int 0, .int 0, .ref h30, .int 0, .ref h31, .ref h32, .ref h33, .ref h34, .ref h35, .ref h36, .ref h37, .ref h38, .int 0, .int 0, .int 0, .int 0, .ref h39, .ref h40, .ref h41, .int 0, .ref h42, .int 0, .ref h43, .int 0, .int 0, .ref h44, .ref h45, .ref h46, .int 0, .ref h47, .ref h48, .ref h49, .ref h50, .ref h51, .ref h52, .ref h53, .int 0, .ref h54, .int 0, .ref h55, .ref h56, .ref h57, .int 0, .ref h58, .ref h59, .ref h60, .ref h61, .int 0, .ref h62, .ref h63, .ref h64, .ref h65, .int 0, .int 0, .int 0, .int 0, .int 0, .int 0, .int 0, .int 0, .int 0, .ref h66, .int 0, .ref h67, .int 0, .int 0, .int 0, .int 0, .int 0, .ref h68, .int 0, .int 0, .ref h69, .int 0, .ref h70, .int 0, .ref h71, .ref h72, .int 0, .ref h73, .ref h74, .ref h75, .ref h76, .long 0, .int 0, .ref h77, .ref h78, .ref h79, .ref h80, .ref h81, .ref h82, .ref h83, .ref h84, .ref h85, .ref h86, .ref h87, .ref h88, .ref h89, .ref h90, .ref h91, .int 0, .ref h92, .ref h93, .ref h94, .int 0])), (h48, .inl (k0, 4, .inl (fun _ => 0))), (h49, .inl (k1, 4, .inl (fun _ => 0))), (h50, .inl (k2, 400, .inl (upd (fun _ => 0) 0 (((w0 >>> ((16 : Int32).toInt64 &&& 63)) &&& 65535).toInt32))))] H_109 := hP_109
          have hD_109 : va_D A [(h0, .inr (15, [.int 0, .int 0, .ref h1, .int 0, .int (-1), .ref h2, .ref h3, .ref h4, .ref h5, .ref h6, .ref h7, .ref h8, .ref h9, .ref h10, .ref h11, .ref h12, .ref h13, .ref h14, .ref h15, .ref h16, .ref h17, .ref h18, .ref h19, .ref h20, .ref h21, .ref h22, .ref h23, .ref h24, .ref h25, .ref h26, .ref h27, .int 0, .ref h28, .ref h29, .int 0, .int 0, .int 0, .int 0, .int 0, .int 0, .ref h30, .int 0, .ref h31, .ref h32, .ref h33, .ref h34, .ref h35, .ref h36, .ref h37, .ref h38, .int 0, .int 0, .int 0, .int 0, .ref h39, .ref h40, .ref h41, .int 0, .ref h42, .int 0, .ref h43, .int 0, .int 0, .ref h44, .ref h45, .ref h46, .int 0, .ref h47, .ref h48, .ref h49, .ref h50, .ref h51, .ref h52, .ref h53, .int 0, .ref h54, .int 0, .ref h55, .ref h56, .ref h57, .int 0, .ref h58, .ref h59, .ref h60, .ref h61, .int 0, .ref h62, .ref h63, .ref h64, .ref h65, .int 0, .int 0, .int 0, .int 0, .int 0, .int 0, .int 0, .int 0, .int 0, .ref h66, .int 0, .ref h67, .int 0, .int 0, .int 0, .int 0, .int 0, .ref h68, .int 0, .int 0, .ref h69, .int 0, .ref h70, .int 0, .ref h71, .ref h72, .int 0, .ref h73, .ref h74, .ref h75, .ref h76, .long 0, .int 0, .ref h77, .ref h78, .ref h79, .ref h80, .ref h81, .ref h82, .ref h83, .ref h84, .ref h85, .ref h86, .ref h87, .ref h88, .ref h89, .ref h90, .ref h91, .int 0, .ref h92, .ref h93, .ref h94, .int 0])), (h48, .inl (k0, 4, .inl (fun _ => 0))), (h49, .inl (k1, 4, .inl (fun _ => 0))), (h50, .inl (k2, 400, .inl (upd (fun _ => 0) 0 (((w0 >>> ((16 : Int32).toInt64 &&& 63)) &&& 65535).toInt32))))] := hD_109
          clear hP_3 hD_3 hS_3
          refine lv_iinc (v := 1) (lv' := [(6, .int 1), (5, .int 0), (0, .ref h0), (1, .int 0), (2, .int 2), (3, .long w0)]) hx hb dX12_put__102 hl_102 (k := 0) rfl (by decide) (by decide) rfl (fun ls_110 hl_110 => ?_)
          clear hl_102
          refine lv_goto (tgt := 65) hx hb dX12_put__105 (by decide) ?_
          refine lv_iload hx hb dX12_put__65 (lv_at hl_110 0 rfl) ?_
          refine lv_iload_n hx hb dX12_put__67 rfl (lv_at hl_110 4 rfl) ?_
          refine lv_icmp_ge (tgt := 108) hx hb dX12_put__68 (by decide) (fun c_ => absurd c_ (by decide)) (fun _ => ?_)
          refine lv_aload_n hx hb dX12_put__71 rfl (lv_at hl_110 2 rfl) ?_
          refine va_get (D := (dC, dI)) (ci := 15) (v := .ref h50) (C := RX12) (T := TX12) (N := 143) hx hb ht inX12 hown hK_3 hP_109 0 rfl rfl 70 (by decide) (ht _ tw_2210) (fun _ h9 => h9) rfl dX12_put__72 ?_
          refine lv_bipush (v := 100) hx hb dX12_put__75 (by decide) ?_
          refine lv_iload_n hx hb dX12_put__77 rfl (lv_at hl_110 3 rfl) ?_
          refine lv_imul hx hb dX12_put__78 ?_
          refine lv_topi (fun x_111 ex_111 => ?_)
          obtain rfl : x_111 = 0 := ex_111.trans (by decide)
          refine lv_iload hx hb dX12_put__79 (lv_at hl_110 1 rfl) ?_
          refine lv_iadd hx hb dX12_put__81 ?_
          refine lv_topi (fun x_112 ex_112 => ?_)
          obtain rfl : x_112 = 0 := ex_112.trans (by decide)
          refine lv_iload hx hb dX12_put__82 (lv_at hl_110 0 rfl) ?_
          refine lv_iadd hx hb dX12_put__84 ?_
          refine lv_topi (fun x_113 ex_113 => ?_)
          obtain rfl : x_113 = 1 := ex_113.trans (by decide)
          refine lv_lload_n hx hb dX12_put__85 rfl (lv_at hl_110 5 rfl) ?_
          refine lv_bipush (v := 16) hx hb dX12_put__86 (by decide) ?_
          refine lv_iload_n hx hb dX12_put__88 rfl (lv_at hl_110 4 rfl) ?_
          refine lv_iconst (v := 1) hx hb dX12_put__89 (by decide) ?_
          refine lv_isub hx hb dX12_put__90 ?_
          refine lv_topi (fun x_114 ex_114 => ?_)
          obtain rfl : x_114 = 1 := ex_114.trans (by decide)
          refine lv_iload hx hb dX12_put__91 (lv_at hl_110 0 rfl) ?_
          refine lv_isub hx hb dX12_put__93 ?_
          refine lv_topi (fun x_115 ex_115 => ?_)
          obtain rfl : x_115 = 0 := ex_115.trans (by decide)
          refine lv_imul hx hb dX12_put__94 ?_
          refine lv_topi (fun x_116 ex_116 => ?_)
          obtain rfl : x_116 = 0 := ex_116.trans (by decide)
          refine lv_lshr (v := (w0 >>> ((0 : Int32).toInt64 &&& 63))) hx hb dX12_put__95 rfl ?_
          refine lv_ldc2 hx hb hown (ht _ tw_2813) dX12_put__96 ?_
          refine lv_land hx hb dX12_put__99 ?_
          refine lv_l2i (v := ((w0 >>> ((0 : Int32).toInt64 &&& 63)) &&& 65535).toInt32) hx hb dX12_put__100 rfl ?_
          refine va_iast hx hb hK_3 hP_109 hD_109 hS_109 3 2 rfl rfl (i := 1) (vpi (by decide)) dX12_put__101 (fun H_117 locs_117 hP_117 hD_117 hS_117 => ?_)
          have hP_117 : va_P (dC, dI) vwCl [(h0, .inr (15, [.int 0, .int 0, .ref h1, .int 0, .int (-1), .ref h2, .ref h3, .ref h4, .ref h5, .ref h6, .ref h7, .ref h8, .ref h9, .ref h10, .ref h11, .ref h12, .ref h13, .ref h14, .ref h15, .ref h16, .ref h17, .ref h18, .ref h19, .ref h20, .ref h21, .ref h22, .ref h23, .ref h24, .ref h25, .ref h26, .ref h27, .int 0, .ref h28, .ref h29, .int 0, .int 0, .int 0, .int 0, .int 0, .int 0, .ref h30, .int 0, .ref h31, .ref h32, .ref h33, .ref h34, .ref h35, .ref h36, .ref h37, .ref h38, .int 0, .int 0, .int 0, .int 0, .ref h39, .ref h40, .ref h41, .int 0, .ref h42, .int 0, .ref h43, .int 0, .int 0, .ref h44, .ref h45, .ref h46, .int 0, .ref h47, .ref h48, .ref h49, .ref h50, .ref h51, .ref h52, .ref h53, .int 0, .ref h54, .int 0, .ref h55, .ref h56, .ref h57, .int 0, .ref h58, .ref h59, .ref h60, .ref h61, .int 0, .ref h62, .ref h63, .ref h64, .ref h65, .int 0, .int 0, .int 0, .int 0, .int 0, .int 0, .int 0, .int 0, .int 0, .ref h66, .int 0, .ref h67, .int 0, .int 0, .int 0, .int 0, .int 0, .ref h68, .int 0, .int 0, .ref h69, .int 0, .ref h70, .int 0, .ref h71, .ref h72, .int 0, .ref h73, .ref h74, .ref h75, .ref h76, .long 0, .int 0, .ref h77, .ref h78, .ref h79, .ref h80, .ref h81, .ref h82, .ref h83, .ref h84, .ref h85, .ref h86, .ref h87, .ref h88, .ref h89, .ref h90, .ref h91, .int 0, .ref h92, .ref h93, .ref h94, .int 0])), (h48, .inl (k0, 4, .inl (fun _ => 0))), (h49, .inl (k1, 4, .inl (fun _ => 0))), (h50, .inl (k2, 400, .inl (upd (upd (fun _ => 0) 0 (((w0 >>> ((16 : Int32).toInt64 &&& 63)) &&& 65535).toInt32)) 1 (((w0 >>> ((0 : Int32).toInt64 &&& 63)) &&& 65535).toInt32))))] H_117 := hP_117
          have hD_117 : va_D A [(h0, .inr (15, [.int 0, .int 0, .ref h1, .int 0, .int (-1), .ref h2, .ref h3, .ref h4, .ref h5, .ref h6, .ref h7, .ref h8, .ref h9, .ref h10, .ref h11, .ref h12, .ref h13, .ref h14, .ref h15, .ref h16, .ref h17, .ref h18, .ref h19, .ref h20, .ref h21, .ref h22, .ref h23, .ref h24, .ref h25, .ref h26, .ref h27, .int 0, .ref h28, .ref h29, .int 0, .int 0, .int 0, .int 0, .int 0, .int 0, .ref h30, .int 0, .ref h31, .ref h32, .ref h33, .ref h34, .ref h35, .ref h36, .ref h37, .ref h38, .int 0, .int 0, .int 0, .int 0, .ref h39, .ref h40, .ref h41, .int 0, .ref h42, .int 0, .ref h43, .int 0, .int 0, .ref h44, .ref h45, .ref h46, .int 0, .ref h47, .ref h48, .ref h49, .ref h50, .ref h51, .ref h52, .ref h53, .int 0, .ref h54, .int 0, .ref h55, .ref h56, .ref h57, .int 0, .ref h58, .ref h59, .ref h60, .ref h61, .int 0, .ref h62, .ref h63, .ref h64, .ref h65, .int 0, .int 0, .int 0, .int 0, .int 0, .int 0, .int 0, .int 0, .int 0, .ref h66, .int 0, .ref h67, .int 0, .int 0, .int 0, .int 0, .int 0, .ref h68, .int 0, .int 0, .ref h69, .int 0, .ref h70, .int 0, .ref h71, .ref h72, .int 0, .ref h73, .ref h74, .ref h75, .ref h76, .long 0, .int 0, .ref h77, .ref h78, .ref h79, .ref h80, .ref h81, .ref h82, .ref h83, .ref h84, .ref h85, .ref h86, .ref h87, .ref h88, .ref h89, .ref h90, .ref h91, .int 0, .ref h92, .ref h93, .ref h94, .int 0])), (h48, .inl (k0, 4, .inl (fun _ => 0))), (h49, .inl (k1, 4, .inl (fun _ => 0))), (h50, .inl (k2, 400, .inl (upd (upd (fun _ => 0) 0 (((w0 >>> ((16 : Int32).toInt64 &&& 63)) &&& 65535).toInt32)) 1 (((w0 >>> ((0 : Int32).toInt64 &&& 63)) &&& 65535).toInt32))))] := hD_117
          clear hP_109 hD_109 hS_109
          refine lv_iinc (v := 2) (lv' := [(6, .int 2), (5, .int 0), (0, .ref h0), (1, .int 0), (2, .int 2), (3, .long w0)]) hx hb dX12_put__102 hl_110 (k := 0) rfl (by decide) (by decide) rfl (fun ls_118 hl_118 => ?_)
          clear hl_110
          refine lv_goto (tgt := 65) hx hb dX12_put__105 (by decide) ?_
          refine lv_iload hx hb dX12_put__65 (lv_at hl_118 0 rfl) ?_
          refine lv_iload_n hx hb dX12_put__67 rfl (lv_at hl_118 4 rfl) ?_
          refine lv_icmp_ge (tgt := 108) hx hb dX12_put__68 (by decide) (fun _ => ?_) (fun c_ => absurd (by decide) c_)
          refine lv_aload_n hx hb dX12_put__108 rfl (lv_at hl_118 2 rfl) ?_
          refine va_get (D := (dC, dI)) (ci := 15) (v := .ref h48) (C := RX12) (T := TX12) (N := 143) hx hb ht inX12 hown hK_3 hP_117 0 rfl rfl 68 (by decide) (ht _ tw_2208) (fun _ h9 => h9) rfl dX12_put__109 ?_
          refine lv_iload_n hx hb dX12_put__112 rfl (lv_at hl_118 3 rfl) ?_
          refine lv_iconst (v := 1) hx hb dX12_put__113 (by decide) ?_
          refine va_zast hx hb hK_3 hP_117 hD_117 hS_117 1 0 rfl rfl (i := 0) (vpi (by decide)) dX12_put__114 (fun H_119 locs_119 hP_119 hD_119 hS_119 => ?_)
          have hP_119 : va_P (dC, dI) vwCl [(h0, .inr (15, [.int 0, .int 0, .ref h1, .int 0, .int (-1), .ref h2, .ref h3, .ref h4, .ref h5, .ref h6, .ref h7, .ref h8, .ref h9, .ref h10, .ref h11, .ref h12, .ref h13, .ref h14, .ref h15, .ref h16, .ref h17, .ref h18, .ref h19, .ref h20, .ref h21, .ref h22, .ref h23, .ref h24, .ref h25, .ref h26, .ref h27, .int 0, .ref h28, .ref h29, .int 0, .int 0, .int 0, .int 0, .int 0, .int 0, .ref h30, .int 0, .ref h31, .ref h32, .ref h33, .ref h34, .ref h35, .ref h36, .ref h37, .ref h38, .int 0, .int 0, .int 0, .int 0, .ref h39, .ref h40, .ref h41, .int 0, .ref h42, .int 0, .ref h43, .int 0, .int 0, .ref h44, .ref h45, .ref h46, .int 0, .ref h47, .ref h48, .ref h49, .ref h50, .ref h51, .ref h52, .ref h53, .int 0, .ref h54, .int 0, .ref h55, .ref h56, .ref h57, .int 0, .ref h58, .ref h59, .ref h60, .ref h61, .int 0, .ref h62, .ref h63, .ref h64, .ref h65, .int 0, .int 0, .int 0, .int 0, .int 0, .int 0, .int 0, .int 0, .int 0, .ref h66, .int 0, .ref h67, .int 0, .int 0, .int 0, .int 0, .int 0, .ref h68, .int 0, .int 0, .ref h69, .int 0, .ref h70, .int 0, .ref h71, .ref h72, .int 0, .ref h73, .ref h74, .ref h75, .ref h76, .long 0, .int 0, .ref h77, .ref h78, .ref h79, .ref h80, .ref h81, .ref h82, .ref h83, .ref h84, .ref h85, .ref h86, .ref h87, .ref h88, .ref h89, .ref h90, .ref h91, .int 0, .ref h92, .ref h93, .ref h94, .int 0])), (h48, .inl (k0, 4, .inl (upd (fun _ => 0) 0 1))), (h49, .inl (k1, 4, .inl (fun _ => 0))), (h50, .inl (k2, 400, .inl (upd (upd (fun _ => 0) 0 (((w0 >>> ((16 : Int32).toInt64 &&& 63)) &&& 65535).toInt32)) 1 (((w0 >>> ((0 : Int32).toInt64 &&& 63)) &&& 65535).toInt32))))] H_119 := hP_119
          have hD_119 : va_D A [(h0, .inr (15, [.int 0, .int 0, .ref h1, .int 0, .int (-1), .ref h2, .ref h3, .ref h4, .ref h5, .ref h6, .ref h7, .ref h8, .ref h9, .ref h10, .ref h11, .ref h12, .ref h13, .ref h14, .ref h15, .ref h16, .ref h17, .ref h18, .ref h19, .ref h20, .ref h21, .ref h22, .ref h23, .ref h24, .ref h25, .ref h26, .ref h27, .int 0, .ref h28, .ref h29, .int 0, .int 0, .int 0, .int 0, .int 0, .int 0, .ref h30, .int 0, .ref h31, .ref h32, .ref h33, .ref h34, .ref h35, .ref h36, .ref h37, .ref h38, .int 0, .int 0, .int 0, .int 0, .ref h39, .ref h40, .ref h41, .int 0, .ref h42, .int 0, .ref h43, .int 0, .int 0, .ref h44, .ref h45, .ref h46, .int 0, .ref h47, .ref h48, .ref h49, .ref h50, .ref h51, .ref h52, .ref h53, .int 0, .ref h54, .int 0, .ref h55, .ref h56, .ref h57, .int 0, .ref h58, .ref h59, .ref h60, .ref h61, .int 0, .ref h62, .ref h63, .ref h64, .ref h65, .int 0, .int 0, .int 0, .int 0, .int 0, .int 0, .int 0, .int 0, .int 0, .ref h66, .int 0, .ref h67, .int 0, .int 0, .int 0, .int 0, .int 0, .ref h68, .int 0, .int 0, .ref h69, .int 0, .ref h70, .int 0, .ref h71, .ref h72, .int 0, .ref h73, .ref h74, .ref h75, .ref h76, .long 0, .int 0, .ref h77, .ref h78, .ref h79, .ref h80, .ref h81, .ref h82, .ref h83, .ref h84, .ref h85, .ref h86, .ref h87, .ref h88, .ref h89, .ref h90, .ref h91, .int 0, .ref h92, .ref h93, .ref h94, .int 0])), (h48, .inl (k0, 4, .inl (upd (fun _ => 0) 0 1))), (h49, .inl (k1, 4, .inl (fun _ => 0))), (h50, .inl (k2, 400, .inl (upd (upd (fun _ => 0) 0 (((w0 >>> ((16 : Int32).toInt64 &&& 63)) &&& 65535).toInt32)) 1 (((w0 >>> ((0 : Int32).toInt64 &&& 63)) &&& 65535).toInt32))))] := hD_119
          clear hP_117 hD_117 hS_117
          refine lv_aload_n hx hb dX12_put__115 rfl (lv_at hl_118 2 rfl) ?_
          refine va_get (D := (dC, dI)) (ci := 15) (v := .ref h49) (C := RX12) (T := TX12) (N := 143) hx hb ht inX12 hown hK_3 hP_119 0 rfl rfl 69 (by decide) (ht _ tw_2209) (fun _ h9 => h9) rfl dX12_put__116 ?_
          refine lv_iload_n hx hb dX12_put__119 rfl (lv_at hl_118 3 rfl) ?_
          refine lv_iload hx hb dX12_put__120 (lv_at hl_118 1 rfl) ?_
          refine lv_iload_n hx hb dX12_put__122 rfl (lv_at hl_118 4 rfl) ?_
          refine lv_iadd hx hb dX12_put__123 ?_
          refine lv_topi (fun x_120 ex_120 => ?_)
          obtain rfl : x_120 = 2 := ex_120.trans (by decide)
          refine va_iast hx hb hK_3 hP_119 hD_119 hS_119 2 1 rfl rfl (i := 0) (vpi (by decide)) dX12_put__124 (fun H_121 locs_121 hP_121 hD_121 hS_121 => ?_)
          have hP_121 : va_P (dC, dI) vwCl [(h0, .inr (15, [.int 0, .int 0, .ref h1, .int 0, .int (-1), .ref h2, .ref h3, .ref h4, .ref h5, .ref h6, .ref h7, .ref h8, .ref h9, .ref h10, .ref h11, .ref h12, .ref h13, .ref h14, .ref h15, .ref h16, .ref h17, .ref h18, .ref h19, .ref h20, .ref h21, .ref h22, .ref h23, .ref h24, .ref h25, .ref h26, .ref h27, .int 0, .ref h28, .ref h29, .int 0, .int 0, .int 0, .int 0, .int 0, .int 0, .ref h30, .int 0, .ref h31, .ref h32, .ref h33, .ref h34, .ref h35, .ref h36, .ref h37, .ref h38, .int 0, .int 0, .int 0, .int 0, .ref h39, .ref h40, .ref h41, .int 0, .ref h42, .int 0, .ref h43, .int 0, .int 0, .ref h44, .ref h45, .ref h46, .int 0, .ref h47, .ref h48, .ref h49, .ref h50, .ref h51, .ref h52, .ref h53, .int 0, .ref h54, .int 0, .ref h55, .ref h56, .ref h57, .int 0, .ref h58, .ref h59, .ref h60, .ref h61, .int 0, .ref h62, .ref h63, .ref h64, .ref h65, .int 0, .int 0, .int 0, .int 0, .int 0, .int 0, .int 0, .int 0, .int 0, .ref h66, .int 0, .ref h67, .int 0, .int 0, .int 0, .int 0, .int 0, .ref h68, .int 0, .int 0, .ref h69, .int 0, .ref h70, .int 0, .ref h71, .ref h72, .int 0, .ref h73, .ref h74, .ref h75, .ref h76, .long 0, .int 0, .ref h77, .ref h78, .ref h79, .ref h80, .ref h81, .ref h82, .ref h83, .ref h84, .ref h85, .ref h86, .ref h87, .ref h88, .ref h89, .ref h90, .ref h91, .int 0, .ref h92, .ref h93, .ref h94, .int 0])), (h48, .inl (k0, 4, .inl (upd (fun _ => 0) 0 1))), (h49, .inl (k1, 4, .inl (upd (fun _ => 0) 0 2))), (h50, .inl (k2, 400, .inl (upd (upd (fun _ => 0) 0 (((w0 >>> ((16 : Int32).toInt64 &&& 63)) &&& 65535).toInt32)) 1 (((w0 >>> ((0 : Int32).toInt64 &&& 63)) &&& 65535).toInt32))))] H_121 := hP_121
          have hD_121 : va_D A [(h0, .inr (15, [.int 0, .int 0, .ref h1, .int 0, .int (-1), .ref h2, .ref h3, .ref h4, .ref h5, .ref h6, .ref h7, .ref h8, .ref h9, .ref h10, .ref h11, .ref h12, .ref h13, .ref h14, .ref h15, .ref h16, .ref h17, .ref h18, .ref h19, .ref h20, .ref h21, .ref h22, .ref h23, .ref h24, .ref h25, .ref h26, .ref h27, .int 0, .ref h28, .ref h29, .int 0, .int 0, .int 0, .int 0, .int 0, .int 0, .ref h30, .int 0, .ref h31, .ref h32, .ref h33, .ref h34, .ref h35, .ref h36, .ref h37, .ref h38, .int 0, .int 0, .int 0, .int 0, .ref h39, .ref h40, .ref h41, .int 0, .ref h42, .int 0, .ref h43, .int 0, .int 0, .ref h44, .ref h45, .ref h46, .int 0, .ref h47, .ref h48, .ref h49, .ref h50, .ref h51, .ref h52, .ref h53, .int 0, .ref h54, .int 0, .ref h55, .ref h56, .ref h57, .int 0, .ref h58, .ref h59, .ref h60, .ref h61, .int 0, .ref h62, .ref h63, .ref h64, .ref h65, .int 0, .int 0, .int 0, .int 0, .int 0, .int 0, .int 0, .int 0, .int 0, .ref h66, .int 0, .ref h67, .int 0, .int 0, .int 0, .int 0, .int 0, .ref h68, .int 0, .int 0, .ref h69, .int 0, .ref h70, .int 0, .ref h71, .ref h72, .int 0, .ref h73, .ref h74, .ref h75, .ref h76, .long 0, .int 0, .ref h77, .ref h78, .ref h79, .ref h80, .ref h81, .ref h82, .ref h83, .ref h84, .ref h85, .ref h86, .ref h87, .ref h88, .ref h89, .ref h90, .ref h91, .int 0, .ref h92, .ref h93, .ref h94, .int 0])), (h48, .inl (k0, 4, .inl (upd (fun _ => 0) 0 1))), (h49, .inl (k1, 4, .inl (upd (fun _ => 0) 0 2))), (h50, .inl (k2, 400, .inl (upd (upd (fun _ => 0) 0 (((w0 >>> ((16 : Int32).toInt64 &&& 63)) &&& 65535).toInt32)) 1 (((w0 >>> ((0 : Int32).toInt64 &&& 63)) &&& 65535).toInt32))))] := hD_121
          clear hP_119 hD_119 hS_119
          refine lv_aload_n hx hb dX12_put__125 rfl (lv_at hl_118 2 rfl) ?_
          refine lv_aload_n hx hb dX12_put__126 rfl (lv_at hl_118 2 rfl) ?_
          refine va_get (D := (dC, dI)) (ci := 15) (v := .int 0) (C := RX12) (T := TX12) (N := 143) hx hb ht inX12 hown hK_3 hP_121 0 rfl rfl 102 (by decide) (ht _ tw_2242) (fun _ h9 => h9) rfl dX12_put__127 ?_
          refine lv_if_eq (tgt := 145) hx hb dX12_put__130 (by decide) (fun _ => ?_) (fun c_ => absurd (by decide) c_)
          refine lv_iconst (v := 0) hx hb dX12_put__145 (by decide) ?_
          refine va_put (D := (dC, dI)) (ci := 15) (v := .int 0) (ty := .boolean) (C := RX12) (T := TX12) (N := 143) hx hb ht inX12 tyX12 tyX12_ok nmX12 hown hK_3 hP_121 hD_121 hS_121 0 rfl rfl 102 (by decide) (ht _ tw_2242) (fun _ h9 => h9) rfl (by decide +kernel) rfl rfl (Nat.le_of_ble_eq_true rfl) dX12_put__146 (fun H_122 locs_122 hP_122 hD_122 hS_122 => ?_)
          have hP_122 : va_P (dC, dI) vwCl [(h0, .inr (15, [.int 0, .int 0, .ref h1, .int 0, .int (-1), .ref h2, .ref h3, .ref h4, .ref h5, .ref h6, .ref h7, .ref h8, .ref h9, .ref h10, .ref h11, .ref h12, .ref h13, .ref h14, .ref h15, .ref h16, .ref h17, .ref h18, .ref h19, .ref h20, .ref h21, .ref h22, .ref h23, .ref h24, .ref h25, .ref h26, .ref h27, .int 0, .ref h28, .ref h29, .int 0, .int 0, .int 0, .int 0, .int 0, .int 0, .ref h30, .int 0, .ref h31, .ref h32, .ref h33, .ref h34, .ref h35, .ref h36, .ref h37, .ref h38, .int 0, .int 0, .int 0, .int 0, .ref h39, .ref h40, .ref h41, .int 0, .ref h42, .int 0, .ref h43, .int 0, .int 0, .ref h44, .ref h45, .ref h46, .int 0, .ref h47, .ref h48, .ref h49, .ref h50, .ref h51, .ref h52, .ref h53, .int 0, .ref h54, .int 0, .ref h55, .ref h56, .ref h57, .int 0, .ref h58, .ref h59, .ref h60, .ref h61, .int 0, .ref h62, .ref h63, .ref h64, .ref h65, .int 0, .int 0, .int 0, .int 0, .int 0, .int 0, .int 0, .int 0, .int 0, .ref h66, .int 0, .ref h67, .int 0, .int 0, .int 0, .int 0, .int 0, .ref h68, .int 0, .int 0, .ref h69, .int 0, .ref h70, .int 0, .ref h71, .ref h72, .int 0, .ref h73, .ref h74, .ref h75, .ref h76, .long 0, .int 0, .ref h77, .ref h78, .ref h79, .ref h80, .ref h81, .ref h82, .ref h83, .ref h84, .ref h85, .ref h86, .ref h87, .ref h88, .ref h89, .ref h90, .ref h91, .int 0, .ref h92, .ref h93, .ref h94, .int 0])), (h48, .inl (k0, 4, .inl (upd (fun _ => 0) 0 1))), (h49, .inl (k1, 4, .inl (upd (fun _ => 0) 0 2))), (h50, .inl (k2, 400, .inl (upd (upd (fun _ => 0) 0 (((w0 >>> ((16 : Int32).toInt64 &&& 63)) &&& 65535).toInt32)) 1 (((w0 >>> ((0 : Int32).toInt64 &&& 63)) &&& 65535).toInt32))))] H_122 := hP_122
          have hD_122 : va_D A [(h0, .inr (15, [.int 0, .int 0, .ref h1, .int 0, .int (-1), .ref h2, .ref h3, .ref h4, .ref h5, .ref h6, .ref h7, .ref h8, .ref h9, .ref h10, .ref h11, .ref h12, .ref h13, .ref h14, .ref h15, .ref h16, .ref h17, .ref h18, .ref h19, .ref h20, .ref h21, .ref h22, .ref h23, .ref h24, .ref h25, .ref h26, .ref h27, .int 0, .ref h28, .ref h29, .int 0, .int 0, .int 0, .int 0, .int 0, .int 0, .ref h30, .int 0, .ref h31, .ref h32, .ref h33, .ref h34, .ref h35, .ref h36, .ref h37, .ref h38, .int 0, .int 0, .int 0, .int 0, .ref h39, .ref h40, .ref h41, .int 0, .ref h42, .int 0, .ref h43, .int 0, .int 0, .ref h44, .ref h45, .ref h46, .int 0, .ref h47, .ref h48, .ref h49, .ref h50, .ref h51, .ref h52, .ref h53, .int 0, .ref h54, .int 0, .ref h55, .ref h56, .ref h57, .int 0, .ref h58, .ref h59, .ref h60, .ref h61, .int 0, .ref h62, .ref h63, .ref h64, .ref h65, .int 0, .int 0, .int 0, .int 0, .int 0, .int 0, .int 0, .int 0, .int 0, .ref h66, .int 0, .ref h67, .int 0, .int 0, .int 0, .int 0, .int 0, .ref h68, .int 0, .int 0, .ref h69, .int 0, .ref h70, .int 0, .ref h71, .ref h72, .int 0, .ref h73, .ref h74, .ref h75, .ref h76, .long 0, .int 0, .ref h77, .ref h78, .ref h79, .ref h80, .ref h81, .ref h82, .ref h83, .ref h84, .ref h85, .ref h86, .ref h87, .ref h88, .ref h89, .ref h90, .ref h91, .int 0, .ref h92, .ref h93, .ref h94, .int 0])), (h48, .inl (k0, 4, .inl (upd (fun _ => 0) 0 1))), (h49, .inl (k1, 4, .inl (upd (fun _ => 0) 0 2))), (h50, .inl (k2, 400, .inl (upd (upd (fun _ => 0) 0 (((w0 >>> ((16 : Int32).toInt64 &&& 63)) &&& 65535).toInt32)) 1 (((w0 >>> ((0 : Int32).toInt64 &&& 63)) &&& 65535).toInt32))))] := hD_122
          clear hP_121 hD_121 hS_121
          refine lv_iload hx hb dX12_put__149 (lv_at hl_118 1 rfl) ?_
          refine lv_iload_n hx hb dX12_put__151 rfl (lv_at hl_118 4 rfl) ?_
          refine lv_iadd hx hb dX12_put__152 ?_
          refine lv_topi (fun x_123 ex_123 => ?_)
          obtain rfl : x_123 = 2 := ex_123.trans (by decide)
          have hP9 := hP_122.sub (ws' := []) [] rfl
          have hD9 := hD_122.sub (ws' := []) [] (by decide) rfl
          have hK9 := hK_3.sub (tys' := []) [] rfl
          refine W.widen (k := 0) (n := 0) (by decide) (by decide) ?_
          exact W.iret (v := 2) hx hb hr (fun t9 ht9 hW9 => ⟨⟨2, 4, rfl, (Or.inr (Or.inr (Or.inr (Or.inr ⟨rfl, rfl, cc_2_0, cc_2_1, cc_3_0, cc_3_1⟩)))), ⟨by rw [ht9]; exact hP9, va_K.moved hW9.alike hK9, hD9⟩⟩, hS_122.F ht9⟩) hS_122.2.2 dX12_put__153
        · refine va_zald hx hb hK_3 hP_3 1 0 rfl rfl (i := 1) (vpi (by decide)) dX12_put__34 ?_
          refine W.eq (g2 := F0 m 35 ls [.int 0]) rfl ?_
          refine lv_if_eq (tgt := 47) hx hb dX12_put__35 (by decide) (fun _ => ?_) (fun c_ => absurd (by decide) c_)
          refine lv_iconst (v := 0) hx hb dX12_put__47 (by decide) ?_
          refine lv_istore (lv' := [(5, .int 0), (0, .ref h0), (1, .int 1), (2, .int 2), (3, .long w0)]) hx hb dX12_put__48 hl (by decide) rfl (fun ls_124 hl_124 => ?_)
          clear hl
          refine lv_iload hx hb dX12_put__50 (lv_at hl_124 0 rfl) ?_
          refine lv_iload_n hx hb dX12_put__52 rfl (lv_at hl_124 3 rfl) ?_
          refine lv_iadd hx hb dX12_put__53 ?_
          refine lv_topi (fun x_125 ex_125 => ?_)
          obtain rfl : x_125 = 2 := ex_125.trans (by decide)
          refine lv_bipush (v := 100) hx hb dX12_put__54 (by decide) ?_
          refine lv_icmp_le (tgt := 62) hx hb dX12_put__56 (by decide) (fun _ => ?_) (fun c_ => absurd (by decide) c_)
          refine lv_iconst (v := 0) hx hb dX12_put__62 (by decide) ?_
          refine lv_istore (lv' := [(6, .int 0), (5, .int 0), (0, .ref h0), (1, .int 1), (2, .int 2), (3, .long w0)]) hx hb dX12_put__63 hl_124 (by decide) rfl (fun ls_126 hl_126 => ?_)
          clear hl_124
          refine lv_iload hx hb dX12_put__65 (lv_at hl_126 0 rfl) ?_
          refine lv_iload_n hx hb dX12_put__67 rfl (lv_at hl_126 4 rfl) ?_
          refine lv_icmp_ge (tgt := 108) hx hb dX12_put__68 (by decide) (fun c_ => absurd c_ (by decide)) (fun _ => ?_)
          refine lv_aload_n hx hb dX12_put__71 rfl (lv_at hl_126 2 rfl) ?_
          refine va_get (D := (dC, dI)) (ci := 15) (v := .ref h50) (C := RX12) (T := TX12) (N := 143) hx hb ht inX12 hown hK_3 hP_3 0 rfl rfl 70 (by decide) (ht _ tw_2210) (fun _ h9 => h9) rfl dX12_put__72 ?_
          refine lv_bipush (v := 100) hx hb dX12_put__75 (by decide) ?_
          refine lv_iload_n hx hb dX12_put__77 rfl (lv_at hl_126 3 rfl) ?_
          refine lv_imul hx hb dX12_put__78 ?_
          refine lv_topi (fun x_127 ex_127 => ?_)
          obtain rfl : x_127 = 100 := ex_127.trans (by decide)
          refine lv_iload hx hb dX12_put__79 (lv_at hl_126 1 rfl) ?_
          refine lv_iadd hx hb dX12_put__81 ?_
          refine lv_topi (fun x_128 ex_128 => ?_)
          obtain rfl : x_128 = 100 := ex_128.trans (by decide)
          refine lv_iload hx hb dX12_put__82 (lv_at hl_126 0 rfl) ?_
          refine lv_iadd hx hb dX12_put__84 ?_
          refine lv_topi (fun x_129 ex_129 => ?_)
          obtain rfl : x_129 = 100 := ex_129.trans (by decide)
          refine lv_lload_n hx hb dX12_put__85 rfl (lv_at hl_126 5 rfl) ?_
          refine lv_bipush (v := 16) hx hb dX12_put__86 (by decide) ?_
          refine lv_iload_n hx hb dX12_put__88 rfl (lv_at hl_126 4 rfl) ?_
          refine lv_iconst (v := 1) hx hb dX12_put__89 (by decide) ?_
          refine lv_isub hx hb dX12_put__90 ?_
          refine lv_topi (fun x_130 ex_130 => ?_)
          obtain rfl : x_130 = 1 := ex_130.trans (by decide)
          refine lv_iload hx hb dX12_put__91 (lv_at hl_126 0 rfl) ?_
          refine lv_isub hx hb dX12_put__93 ?_
          refine lv_topi (fun x_131 ex_131 => ?_)
          obtain rfl : x_131 = 1 := ex_131.trans (by decide)
          refine lv_imul hx hb dX12_put__94 ?_
          refine lv_topi (fun x_132 ex_132 => ?_)
          obtain rfl : x_132 = 16 := ex_132.trans (by decide)
          refine lv_lshr (v := (w0 >>> ((16 : Int32).toInt64 &&& 63))) hx hb dX12_put__95 rfl ?_
          refine lv_ldc2 hx hb hown (ht _ tw_2813) dX12_put__96 ?_
          refine lv_land hx hb dX12_put__99 ?_
          refine lv_l2i (v := ((w0 >>> ((16 : Int32).toInt64 &&& 63)) &&& 65535).toInt32) hx hb dX12_put__100 rfl ?_
          refine va_iast hx hb hK_3 hP_3 hD_3 hS_3 3 2 rfl rfl (i := 100) (vpi (by decide)) dX12_put__101 (fun H_133 locs_133 hP_133 hD_133 hS_133 => ?_)
          have hP_133 : va_P (dC, dI) vwCl [(h0, .inr (15, [.int 0, .int 0, .ref h1, .int 0, .int (-1), .ref h2, .ref h3, .ref h4, .ref h5, .ref h6, .ref h7, .ref h8, .ref h9, .ref h10, .ref h11, .ref h12, .ref h13, .ref h14, .ref h15, .ref h16, .ref h17, .ref h18, .ref h19, .ref h20, .ref h21, .ref h22, .ref h23, .ref h24, .ref h25, .ref h26, .ref h27, .int 0, .ref h28, .ref h29, .int 0, .int 0, .int 0, .int 0, .int 0, .int 0, .ref h30, .int 0, .ref h31, .ref h32, .ref h33, .ref h34, .ref h35, .ref h36, .ref h37, .ref h38, .int 0, .int 0, .int 0, .int 0, .ref h39, .ref h40, .ref h41, .int 0, .ref h42, .int 0, .ref h43, .int 0, .int 0, .ref h44, .ref h45, .ref h46, .int 0, .ref h47, .ref h48, .ref h49, .ref h50, .ref h51, .ref h52, .ref h53, .int 0, .ref h54, .int 0, .ref h55, .ref h56, .ref h57, .int 0, .ref h58, .ref h59, .ref h60, .ref h61, .int 0, .ref h62, .ref h63, .ref h64, .ref h65, .int 0, .int 0, .int 0, .int 0, .int 0, .int 0, .int 0, .int 0, .int 0, .ref h66, .int 0, .ref h67, .int 0, .int 0, .int 0, .int 0, .int 0, .ref h68, .int 0, .int 0, .ref h69, .int 0, .ref h70, .int 0, .ref h71, .ref h72, .int 0, .ref h73, .ref h74, .ref h75, .ref h76, .long 0, .int 0, .ref h77, .ref h78, .ref h79, .ref h80, .ref h81, .ref h82, .ref h83, .ref h84, .ref h85, .ref h86, .ref h87, .ref h88, .ref h89, .ref h90, .ref h91, .int 0, .ref h92, .ref h93, .ref h94, .int 0])), (h48, .inl (k0, 4, .inl (fun _ => 0))), (h49, .inl (k1, 4, .inl (fun _ => 0))), (h50, .inl (k2, 400, .inl (upd (fun _ => 0) 100 (((w0 >>> ((16 : Int32).toInt64 &&& 63)) &&& 65535).toInt32))))] H_133 := hP_133
          have hD_133 : va_D A [(h0, .inr (15, [.int 0, .int 0, .ref h1, .int 0, .int (-1), .ref h2, .ref h3, .ref h4, .ref h5, .ref h6, .ref h7, .ref h8, .ref h9, .ref h10, .ref h11, .ref h12, .ref h13, .ref h14, .ref h15, .ref h16, .ref h17, .ref h18, .ref h19, .ref h20, .ref h21, .ref h22, .ref h23, .ref h24, .ref h25, .ref h26, .ref h27, .int 0, .ref h28, .ref h29, .int 0, .int 0, .int 0, .int 0, .int 0, .int 0, .ref h30, .int 0, .ref h31, .ref h32, .ref h33, .ref h34, .ref h35, .ref h36, .ref h37, .ref h38, .int 0, .int 0, .int 0, .int 0, .ref h39, .ref h40, .ref h41, .int 0, .ref h42, .int 0, .ref h43, .int 0, .int 0, .ref h44, .ref h45, .ref h46, .int 0, .ref h47, .ref h48, .ref h49, .ref h50, .ref h51, .ref h52, .ref h53, .int 0, .ref h54, .int 0, .ref h55, .ref h56, .ref h57, .int 0, .ref h58, .ref h59, .ref h60, .ref h61, .int 0, .ref h62, .ref h63, .ref h64, .ref h65, .int 0, .int 0, .int 0, .int 0, .int 0, .int 0, .int 0, .int 0, .int 0, .ref h66, .int 0, .ref h67, .int 0, .int 0, .int 0, .int 0, .int 0, .ref h68, .int 0, .int 0, .ref h69, .int 0, .ref h70, .int 0, .ref h71, .ref h72, .int 0, .ref h73, .ref h74, .ref h75, .ref h76, .long 0, .int 0, .ref h77, .ref h78, .ref h79, .ref h80, .ref h81, .ref h82, .ref h83, .ref h84, .ref h85, .ref h86, .ref h87, .ref h88, .ref h89, .ref h90, .ref h91, .int 0, .ref h92, .ref h93, .ref h94, .int 0])), (h48, .inl (k0, 4, .inl (fun _ => 0))), (h49, .inl (k1, 4, .inl (fun _ => 0))), (h50, .inl (k2, 400, .inl (upd (fun _ => 0) 100 (((w0 >>> ((16 : Int32).toInt64 &&& 63)) &&& 65535).toInt32))))] := hD_133
          clear hP_3 hD_3 hS_3
          refine lv_iinc (v := 1) (lv' := [(6, .int 1), (5, .int 0), (0, .ref h0), (1, .int 1), (2, .int 2), (3, .long w0)]) hx hb dX12_put__102 hl_126 (k := 0) rfl (by decide) (by decide) rfl (fun ls_134 hl_134 => ?_)
          clear hl_126
          refine lv_goto (tgt := 65) hx hb dX12_put__105 (by decide) ?_
          refine lv_iload hx hb dX12_put__65 (lv_at hl_134 0 rfl) ?_
          refine lv_iload_n hx hb dX12_put__67 rfl (lv_at hl_134 4 rfl) ?_
          refine lv_icmp_ge (tgt := 108) hx hb dX12_put__68 (by decide) (fun c_ => absurd c_ (by decide)) (fun _ => ?_)
          refine lv_aload_n hx hb dX12_put__71 rfl (lv_at hl_134 2 rfl) ?_
          refine va_get (D := (dC, dI)) (ci := 15) (v := .ref h50) (C := RX12) (T := TX12) (N := 143) hx hb ht inX12 hown hK_3 hP_133 0 rfl rfl 70 (by decide) (ht _ tw_2210) (fun _ h9 => h9) rfl dX12_put__72 ?_
          refine lv_bipush (v := 100) hx hb dX12_put__75 (by decide) ?_
          refine lv_iload_n hx hb dX12_put__77 rfl (lv_at hl_134 3 rfl) ?_
          refine lv_imul hx hb dX12_put__78 ?_
          refine lv_topi (fun x_135 ex_135 => ?_)
          obtain rfl : x_135 = 100 := ex_135.trans (by decide)
          refine lv_iload hx hb dX12_put__79 (lv_at hl_134 1 rfl) ?_
          refine lv_iadd hx hb dX12_put__81 ?_
          refine lv_topi (fun x_136 ex_136 => ?_)
          obtain rfl : x_136 = 100 := ex_136.trans (by decide)
          refine lv_iload hx hb dX12_put__82 (lv_at hl_134 0 rfl) ?_
          refine lv_iadd hx hb dX12_put__84 ?_
          refine lv_topi (fun x_137 ex_137 => ?_)
          obtain rfl : x_137 = 101 := ex_137.trans (by decide)
          refine lv_lload_n hx hb dX12_put__85 rfl (lv_at hl_134 5 rfl) ?_
          refine lv_bipush (v := 16) hx hb dX12_put__86 (by decide) ?_
          refine lv_iload_n hx hb dX12_put__88 rfl (lv_at hl_134 4 rfl) ?_
          refine lv_iconst (v := 1) hx hb dX12_put__89 (by decide) ?_
          refine lv_isub hx hb dX12_put__90 ?_
          refine lv_topi (fun x_138 ex_138 => ?_)
          obtain rfl : x_138 = 1 := ex_138.trans (by decide)
          refine lv_iload hx hb dX12_put__91 (lv_at hl_134 0 rfl) ?_
          refine lv_isub hx hb dX12_put__93 ?_
          refine lv_topi (fun x_139 ex_139 => ?_)
          obtain rfl : x_139 = 0 := ex_139.trans (by decide)
          refine lv_imul hx hb dX12_put__94 ?_
          refine lv_topi (fun x_140 ex_140 => ?_)
          obtain rfl : x_140 = 0 := ex_140.trans (by decide)
          refine lv_lshr (v := (w0 >>> ((0 : Int32).toInt64 &&& 63))) hx hb dX12_put__95 rfl ?_
          refine lv_ldc2 hx hb hown (ht _ tw_2813) dX12_put__96 ?_
          refine lv_land hx hb dX12_put__99 ?_
          refine lv_l2i (v := ((w0 >>> ((0 : Int32).toInt64 &&& 63)) &&& 65535).toInt32) hx hb dX12_put__100 rfl ?_
          refine va_iast hx hb hK_3 hP_133 hD_133 hS_133 3 2 rfl rfl (i := 101) (vpi (by decide)) dX12_put__101 (fun H_141 locs_141 hP_141 hD_141 hS_141 => ?_)
          have hP_141 : va_P (dC, dI) vwCl [(h0, .inr (15, [.int 0, .int 0, .ref h1, .int 0, .int (-1), .ref h2, .ref h3, .ref h4, .ref h5, .ref h6, .ref h7, .ref h8, .ref h9, .ref h10, .ref h11, .ref h12, .ref h13, .ref h14, .ref h15, .ref h16, .ref h17, .ref h18, .ref h19, .ref h20, .ref h21, .ref h22, .ref h23, .ref h24, .ref h25, .ref h26, .ref h27, .int 0, .ref h28, .ref h29, .int 0, .int 0, .int 0, .int 0, .int 0, .int 0, .ref h30, .int 0, .ref h31, .ref h32, .ref h33, .ref h34, .ref h35, .ref h36, .ref h37, .ref h38, .int 0, .int 0, .int 0, .int 0, .ref h39, .ref h40, .ref h41, .int 0, .ref h42, .int 0, .ref h43, .int 0, .int 0, .ref h44, .ref h45, .ref h46, .int 0, .ref h47, .ref h48, .ref h49, .ref h50, .ref h51, .ref h52, .ref h53, .int 0, .ref h54, .int 0, .ref h55, .ref h56, .ref h57, .int 0, .ref h58, .ref h59, .ref h60, .ref h61, .int 0, .ref h62, .ref h63, .ref h64, .ref h65, .int 0, .int 0, .int 0, .int 0, .int 0, .int 0, .int 0, .int 0, .int 0, .ref h66, .int 0, .ref h67, .int 0, .int 0, .int 0, .int 0, .int 0, .ref h68, .int 0, .int 0, .ref h69, .int 0, .ref h70, .int 0, .ref h71, .ref h72, .int 0, .ref h73, .ref h74, .ref h75, .ref h76, .long 0, .int 0, .ref h77, .ref h78, .ref h79, .ref h80, .ref h81, .ref h82, .ref h83, .ref h84, .ref h85, .ref h86, .ref h87, .ref h88, .ref h89, .ref h90, .ref h91, .int 0, .ref h92, .ref h93, .ref h94, .int 0])), (h48, .inl (k0, 4, .inl (fun _ => 0))), (h49, .inl (k1, 4, .inl (fun _ => 0))), (h50, .inl (k2, 400, .inl (upd (upd (fun _ => 0) 100 (((w0 >>> ((16 : Int32).toInt64 &&& 63)) &&& 65535).toInt32)) 101 (((w0 >>> ((0 : Int32).toInt64 &&& 63)) &&& 65535).toInt32))))] H_141 := hP_141
          have hD_141 : va_D A [(h0, .inr (15, [.int 0, .int 0, .ref h1, .int 0, .int (-1), .ref h2, .ref h3, .ref h4, .ref h5, .ref h6, .ref h7, .ref h8, .ref h9, .ref h10, .ref h11, .ref h12, .ref h13, .ref h14, .ref h15, .ref h16, .ref h17, .ref h18, .ref h19, .ref h20, .ref h21, .ref h22, .ref h23, .ref h24, .ref h25, .ref h26, .ref h27, .int 0, .ref h28, .ref h29, .int 0, .int 0, .int 0, .int 0, .int 0, .int 0, .ref h30, .int 0, .ref h31, .ref h32, .ref h33, .ref h34, .ref h35, .ref h36, .ref h37, .ref h38, .int 0, .int 0, .int 0, .int 0, .ref h39, .ref h40, .ref h41, .int 0, .ref h42, .int 0, .ref h43, .int 0, .int 0, .ref h44, .ref h45, .ref h46, .int 0, .ref h47, .ref h48, .ref h49, .ref h50, .ref h51, .ref h52, .ref h53, .int 0, .ref h54, .int 0, .ref h55, .ref h56, .ref h57, .int 0, .ref h58, .ref h59, .ref h60, .ref h61, .int 0, .ref h62, .ref h63, .ref h64, .ref h65, .int 0, .int 0, .int 0, .int 0, .int 0, .int 0, .int 0, .int 0, .int 0, .ref h66, .int 0, .ref h67, .int 0, .int 0, .int 0, .int 0, .int 0, .ref h68, .int 0, .int 0, .ref h69, .int 0, .ref h70, .int 0, .ref h71, .ref h72, .int 0, .ref h73, .ref h74, .ref h75, .ref h76, .long 0, .int 0, .ref h77, .ref h78, .ref h79, .ref h80, .ref h81, .ref h82, .ref h83, .ref h84, .ref h85, .ref h86, .ref h87, .ref h88, .ref h89, .ref h90, .ref h91, .int 0, .ref h92, .ref h93, .ref h94, .int 0])), (h48, .inl (k0, 4, .inl (fun _ => 0))), (h49, .inl (k1, 4, .inl (fun _ => 0))), (h50, .inl (k2, 400, .inl (upd (upd (fun _ => 0) 100 (((w0 >>> ((16 : Int32).toInt64 &&& 63)) &&& 65535).toInt32)) 101 (((w0 >>> ((0 : Int32).toInt64 &&& 63)) &&& 65535).toInt32))))] := hD_141
          clear hP_133 hD_133 hS_133
          refine lv_iinc (v := 2) (lv' := [(6, .int 2), (5, .int 0), (0, .ref h0), (1, .int 1), (2, .int 2), (3, .long w0)]) hx hb dX12_put__102 hl_134 (k := 0) rfl (by decide) (by decide) rfl (fun ls_142 hl_142 => ?_)
          clear hl_134
          refine lv_goto (tgt := 65) hx hb dX12_put__105 (by decide) ?_
          refine lv_iload hx hb dX12_put__65 (lv_at hl_142 0 rfl) ?_
          refine lv_iload_n hx hb dX12_put__67 rfl (lv_at hl_142 4 rfl) ?_
          refine lv_icmp_ge (tgt := 108) hx hb dX12_put__68 (by decide) (fun _ => ?_) (fun c_ => absurd (by decide) c_)
          refine lv_aload_n hx hb dX12_put__108 rfl (lv_at hl_142 2 rfl) ?_
          refine va_get (D := (dC, dI)) (ci := 15) (v := .ref h48) (C := RX12) (T := TX12) (N := 143) hx hb ht inX12 hown hK_3 hP_141 0 rfl rfl 68 (by decide) (ht _ tw_2208) (fun _ h9 => h9) rfl dX12_put__109 ?_
          refine lv_iload_n hx hb dX12_put__112 rfl (lv_at hl_142 3 rfl) ?_
          refine lv_iconst (v := 1) hx hb dX12_put__113 (by decide) ?_
          refine va_zast hx hb hK_3 hP_141 hD_141 hS_141 1 0 rfl rfl (i := 1) (vpi (by decide)) dX12_put__114 (fun H_143 locs_143 hP_143 hD_143 hS_143 => ?_)
          have hP_143 : va_P (dC, dI) vwCl [(h0, .inr (15, [.int 0, .int 0, .ref h1, .int 0, .int (-1), .ref h2, .ref h3, .ref h4, .ref h5, .ref h6, .ref h7, .ref h8, .ref h9, .ref h10, .ref h11, .ref h12, .ref h13, .ref h14, .ref h15, .ref h16, .ref h17, .ref h18, .ref h19, .ref h20, .ref h21, .ref h22, .ref h23, .ref h24, .ref h25, .ref h26, .ref h27, .int 0, .ref h28, .ref h29, .int 0, .int 0, .int 0, .int 0, .int 0, .int 0, .ref h30, .int 0, .ref h31, .ref h32, .ref h33, .ref h34, .ref h35, .ref h36, .ref h37, .ref h38, .int 0, .int 0, .int 0, .int 0, .ref h39, .ref h40, .ref h41, .int 0, .ref h42, .int 0, .ref h43, .int 0, .int 0, .ref h44, .ref h45, .ref h46, .int 0, .ref h47, .ref h48, .ref h49, .ref h50, .ref h51, .ref h52, .ref h53, .int 0, .ref h54, .int 0, .ref h55, .ref h56, .ref h57, .int 0, .ref h58, .ref h59, .ref h60, .ref h61, .int 0, .ref h62, .ref h63, .ref h64, .ref h65, .int 0, .int 0, .int 0, .int 0, .int 0, .int 0, .int 0, .int 0, .int 0, .ref h66, .int 0, .ref h67, .int 0, .int 0, .int 0, .int 0, .int 0, .ref h68, .int 0, .int 0, .ref h69, .int 0, .ref h70, .int 0, .ref h71, .ref h72, .int 0, .ref h73, .ref h74, .ref h75, .ref h76, .long 0, .int 0, .ref h77, .ref h78, .ref h79, .ref h80, .ref h81, .ref h82, .ref h83, .ref h84, .ref h85, .ref h86, .ref h87, .ref h88, .ref h89, .ref h90, .ref h91, .int 0, .ref h92, .ref h93, .ref h94, .int 0])), (h48, .inl (k0, 4, .inl (upd (fun _ => 0) 1 1))), (h49, .inl (k1, 4, .inl (fun _ => 0))), (h50, .inl (k2, 400, .inl (upd (upd (fun _ => 0) 100 (((w0 >>> ((16 : Int32).toInt64 &&& 63)) &&& 65535).toInt32)) 101 (((w0 >>> ((0 : Int32).toInt64 &&& 63)) &&& 65535).toInt32))))] H_143 := hP_143
          have hD_143 : va_D A [(h0, .inr (15, [.int 0, .int 0, .ref h1, .int 0, .int (-1), .ref h2, .ref h3, .ref h4, .ref h5, .ref h6, .ref h7, .ref h8, .ref h9, .ref h10, .ref h11, .ref h12, .ref h13, .ref h14, .ref h15, .ref h16, .ref h17, .ref h18, .ref h19, .ref h20, .ref h21, .ref h22, .ref h23, .ref h24, .ref h25, .ref h26, .ref h27, .int 0, .ref h28, .ref h29, .int 0, .int 0, .int 0, .int 0, .int 0, .int 0, .ref h30, .int 0, .ref h31, .ref h32, .ref h33, .ref h34, .ref h35, .ref h36, .ref h37, .ref h38, .int 0, .int 0, .int 0, .int 0, .ref h39, .ref h40, .ref h41, .int 0, .ref h42, .int 0, .ref h43, .int 0, .int 0, .ref h44, .ref h45, .ref h46, .int 0, .ref h47, .ref h48, .ref h49, .ref h50, .ref h51, .ref h52, .ref h53, .int 0, .ref h54, .int 0, .ref h55, .ref h56, .ref h57, .int 0, .ref h58, .ref h59, .ref h60, .ref h61, .int 0, .ref h62, .ref h63, .ref h64, .ref h65, .int 0, .int 0, .int 0, .int 0, .int 0, .int 0, .int 0, .int 0, .int 0, .ref h66, .int 0, .ref h67, .int 0, .int 0, .int 0, .int 0, .int 0, .ref h68, .int 0, .int 0, .ref h69, .int 0, .ref h70, .int 0, .ref h71, .ref h72, .int 0, .ref h73, .ref h74, .ref h75, .ref h76, .long 0, .int 0, .ref h77, .ref h78, .ref h79, .ref h80, .ref h81, .ref h82, .ref h83, .ref h84, .ref h85, .ref h86, .ref h87, .ref h88, .ref h89, .ref h90, .ref h91, .int 0, .ref h92, .ref h93, .ref h94, .int 0])), (h48, .inl (k0, 4, .inl (upd (fun _ => 0) 1 1))), (h49, .inl (k1, 4, .inl (fun _ => 0))), (h50, .inl (k2, 400, .inl (upd (upd (fun _ => 0) 100 (((w0 >>> ((16 : Int32).toInt64 &&& 63)) &&& 65535).toInt32)) 101 (((w0 >>> ((0 : Int32).toInt64 &&& 63)) &&& 65535).toInt32))))] := hD_143
          clear hP_141 hD_141 hS_141
          refine lv_aload_n hx hb dX12_put__115 rfl (lv_at hl_142 2 rfl) ?_
          refine va_get (D := (dC, dI)) (ci := 15) (v := .ref h49) (C := RX12) (T := TX12) (N := 143) hx hb ht inX12 hown hK_3 hP_143 0 rfl rfl 69 (by decide) (ht _ tw_2209) (fun _ h9 => h9) rfl dX12_put__116 ?_
          refine lv_iload_n hx hb dX12_put__119 rfl (lv_at hl_142 3 rfl) ?_
          refine lv_iload hx hb dX12_put__120 (lv_at hl_142 1 rfl) ?_
          refine lv_iload_n hx hb dX12_put__122 rfl (lv_at hl_142 4 rfl) ?_
          refine lv_iadd hx hb dX12_put__123 ?_
          refine lv_topi (fun x_144 ex_144 => ?_)
          obtain rfl : x_144 = 2 := ex_144.trans (by decide)
          refine va_iast hx hb hK_3 hP_143 hD_143 hS_143 2 1 rfl rfl (i := 1) (vpi (by decide)) dX12_put__124 (fun H_145 locs_145 hP_145 hD_145 hS_145 => ?_)
          have hP_145 : va_P (dC, dI) vwCl [(h0, .inr (15, [.int 0, .int 0, .ref h1, .int 0, .int (-1), .ref h2, .ref h3, .ref h4, .ref h5, .ref h6, .ref h7, .ref h8, .ref h9, .ref h10, .ref h11, .ref h12, .ref h13, .ref h14, .ref h15, .ref h16, .ref h17, .ref h18, .ref h19, .ref h20, .ref h21, .ref h22, .ref h23, .ref h24, .ref h25, .ref h26, .ref h27, .int 0, .ref h28, .ref h29, .int 0, .int 0, .int 0, .int 0, .int 0, .int 0, .ref h30, .int 0, .ref h31, .ref h32, .ref h33, .ref h34, .ref h35, .ref h36, .ref h37, .ref h38, .int 0, .int 0, .int 0, .int 0, .ref h39, .ref h40, .ref h41, .int 0, .ref h42, .int 0, .ref h43, .int 0, .int 0, .ref h44, .ref h45, .ref h46, .int 0, .ref h47, .ref h48, .ref h49, .ref h50, .ref h51, .ref h52, .ref h53, .int 0, .ref h54, .int 0, .ref h55, .ref h56, .ref h57, .int 0, .ref h58, .ref h59, .ref h60, .ref h61, .int 0, .ref h62, .ref h63, .ref h64, .ref h65, .int 0, .int 0, .int 0, .int 0, .int 0, .int 0, .int 0, .int 0, .int 0, .ref h66, .int 0, .ref h67, .int 0, .int 0, .int 0, .int 0, .int 0, .ref h68, .int 0, .int 0, .ref h69, .int 0, .ref h70, .int 0, .ref h71, .ref h72, .int 0, .ref h73, .ref h74, .ref h75, .ref h76, .long 0, .int 0, .ref h77, .ref h78, .ref h79, .ref h80, .ref h81, .ref h82, .ref h83, .ref h84, .ref h85, .ref h86, .ref h87, .ref h88, .ref h89, .ref h90, .ref h91, .int 0, .ref h92, .ref h93, .ref h94, .int 0])), (h48, .inl (k0, 4, .inl (upd (fun _ => 0) 1 1))), (h49, .inl (k1, 4, .inl (upd (fun _ => 0) 1 2))), (h50, .inl (k2, 400, .inl (upd (upd (fun _ => 0) 100 (((w0 >>> ((16 : Int32).toInt64 &&& 63)) &&& 65535).toInt32)) 101 (((w0 >>> ((0 : Int32).toInt64 &&& 63)) &&& 65535).toInt32))))] H_145 := hP_145
          have hD_145 : va_D A [(h0, .inr (15, [.int 0, .int 0, .ref h1, .int 0, .int (-1), .ref h2, .ref h3, .ref h4, .ref h5, .ref h6, .ref h7, .ref h8, .ref h9, .ref h10, .ref h11, .ref h12, .ref h13, .ref h14, .ref h15, .ref h16, .ref h17, .ref h18, .ref h19, .ref h20, .ref h21, .ref h22, .ref h23, .ref h24, .ref h25, .ref h26, .ref h27, .int 0, .ref h28, .ref h29, .int 0, .int 0, .int 0, .int 0, .int 0, .int 0, .ref h30, .int 0, .ref h31, .ref h32, .ref h33, .ref h34, .ref h35, .ref h36, .ref h37, .ref h38, .int 0, .int 0, .int 0, .int 0, .ref h39, .ref h40, .ref h41, .int 0, .ref h42, .int 0, .ref h43, .int 0, .int 0, .ref h44, .ref h45, .ref h46, .int 0, .ref h47, .ref h48, .ref h49, .ref h50, .ref h51, .ref h52, .ref h53, .int 0, .ref h54, .int 0, .ref h55, .ref h56, .ref h57, .int 0, .ref h58, .ref h59, .ref h60, .ref h61, .int 0, .ref h62, .ref h63, .ref h64, .ref h65, .int 0, .int 0, .int 0, .int 0, .int 0, .int 0, .int 0, .int 0, .int 0, .ref h66, .int 0, .ref h67, .int 0, .int 0, .int 0, .int 0, .int 0, .ref h68, .int 0, .int 0, .ref h69, .int 0, .ref h70, .int 0, .ref h71, .ref h72, .int 0, .ref h73, .ref h74, .ref h75, .ref h76, .long 0, .int 0, .ref h77, .ref h78, .ref h79, .ref h80, .ref h81, .ref h82, .ref h83, .ref h84, .ref h85, .ref h86, .ref h87, .ref h88, .ref h89, .ref h90, .ref h91, .int 0, .ref h92, .ref h93, .ref h94, .int 0])), (h48, .inl (k0, 4, .inl (upd (fun _ => 0) 1 1))), (h49, .inl (k1, 4, .inl (upd (fun _ => 0) 1 2))), (h50, .inl (k2, 400, .inl (upd (upd (fun _ => 0) 100 (((w0 >>> ((16 : Int32).toInt64 &&& 63)) &&& 65535).toInt32)) 101 (((w0 >>> ((0 : Int32).toInt64 &&& 63)) &&& 65535).toInt32))))] := hD_145
          clear hP_143 hD_143 hS_143
          refine lv_aload_n hx hb dX12_put__125 rfl (lv_at hl_142 2 rfl) ?_
          refine lv_aload_n hx hb dX12_put__126 rfl (lv_at hl_142 2 rfl) ?_
          refine va_get (D := (dC, dI)) (ci := 15) (v := .int 0) (C := RX12) (T := TX12) (N := 143) hx hb ht inX12 hown hK_3 hP_145 0 rfl rfl 102 (by decide) (ht _ tw_2242) (fun _ h9 => h9) rfl dX12_put__127 ?_
          refine lv_if_eq (tgt := 145) hx hb dX12_put__130 (by decide) (fun _ => ?_) (fun c_ => absurd (by decide) c_)
          refine lv_iconst (v := 0) hx hb dX12_put__145 (by decide) ?_
          refine va_put (D := (dC, dI)) (ci := 15) (v := .int 0) (ty := .boolean) (C := RX12) (T := TX12) (N := 143) hx hb ht inX12 tyX12 tyX12_ok nmX12 hown hK_3 hP_145 hD_145 hS_145 0 rfl rfl 102 (by decide) (ht _ tw_2242) (fun _ h9 => h9) rfl (by decide +kernel) rfl rfl (Nat.le_of_ble_eq_true rfl) dX12_put__146 (fun H_146 locs_146 hP_146 hD_146 hS_146 => ?_)
          have hP_146 : va_P (dC, dI) vwCl [(h0, .inr (15, [.int 0, .int 0, .ref h1, .int 0, .int (-1), .ref h2, .ref h3, .ref h4, .ref h5, .ref h6, .ref h7, .ref h8, .ref h9, .ref h10, .ref h11, .ref h12, .ref h13, .ref h14, .ref h15, .ref h16, .ref h17, .ref h18, .ref h19, .ref h20, .ref h21, .ref h22, .ref h23, .ref h24, .ref h25, .ref h26, .ref h27, .int 0, .ref h28, .ref h29, .int 0, .int 0, .int 0, .int 0, .int 0, .int 0, .ref h30, .int 0, .ref h31, .ref h32, .ref h33, .ref h34, .ref h35, .ref h36, .ref h37, .ref h38, .int 0, .int 0, .int 0, .int 0, .ref h39, .ref h40, .ref h41, .int 0, .ref h42, .int 0, .ref h43, .int 0, .int 0, .ref h44, .ref h45, .ref h46, .int 0, .ref h47, .ref h48, .ref h49, .ref h50, .ref h51, .ref h52, .ref h53, .int 0, .ref h54, .int 0, .ref h55, .ref h56, .ref h57, .int 0, .ref h58, .ref h59, .ref h60, .ref h61, .int 0, .ref h62, .ref h63, .ref h64, .ref h65, .int 0, .int 0, .int 0, .int 0, .int 0, .int 0, .int 0, .int 0, .int 0, .ref h66, .int 0, .ref h67, .int 0, .int 0, .int 0, .int 0, .int 0, .ref h68, .int 0, .int 0, .ref h69, .int 0, .ref h70, .int 0, .ref h71, .ref h72, .int 0, .ref h73, .ref h74, .ref h75, .ref h76, .long 0, .int 0, .ref h77, .ref h78, .ref h79, .ref h80, .ref h81, .ref h82, .ref h83, .ref h84, .ref h85, .ref h86, .ref h87, .ref h88, .ref h89, .ref h90, .ref h91, .int 0, .ref h92, .ref h93, .ref h94, .int 0])), (h48, .inl (k0, 4, .inl (upd (fun _ => 0) 1 1))), (h49, .inl (k1, 4, .inl (upd (fun _ => 0) 1 2))), (h50, .inl (k2, 400, .inl (upd (upd (fun _ => 0) 100 (((w0 >>> ((16 : Int32).toInt64 &&& 63)) &&& 65535).toInt32)) 101 (((w0 >>> ((0 : Int32).toInt64 &&& 63)) &&& 65535).toInt32))))] H_146 := hP_146
          have hD_146 : va_D A [(h0, .inr (15, [.int 0, .int 0, .ref h1, .int 0, .int (-1), .ref h2, .ref h3, .ref h4, .ref h5, .ref h6, .ref h7, .ref h8, .ref h9, .ref h10, .ref h11, .ref h12, .ref h13, .ref h14, .ref h15, .ref h16, .ref h17, .ref h18, .ref h19, .ref h20, .ref h21, .ref h22, .ref h23, .ref h24, .ref h25, .ref h26, .ref h27, .int 0, .ref h28, .ref h29, .int 0, .int 0, .int 0, .int 0, .int 0, .int 0, .ref h30, .int 0, .ref h31, .ref h32, .ref h33, .ref h34, .ref h35, .ref h36, .ref h37, .ref h38, .int 0, .int 0, .int 0, .int 0, .ref h39, .ref h40, .ref h41, .int 0, .ref h42, .int 0, .ref h43, .int 0, .int 0, .ref h44, .ref h45, .ref h46, .int 0, .ref h47, .ref h48, .ref h49, .ref h50, .ref h51, .ref h52, .ref h53, .int 0, .ref h54, .int 0, .ref h55, .ref h56, .ref h57, .int 0, .ref h58, .ref h59, .ref h60, .ref h61, .int 0, .ref h62, .ref h63, .ref h64, .ref h65, .int 0, .int 0, .int 0, .int 0, .int 0, .int 0, .int 0, .int 0, .int 0, .ref h66, .int 0, .ref h67, .int 0, .int 0, .int 0, .int 0, .int 0, .ref h68, .int 0, .int 0, .ref h69, .int 0, .ref h70, .int 0, .ref h71, .ref h72, .int 0, .ref h73, .ref h74, .ref h75, .ref h76, .long 0, .int 0, .ref h77, .ref h78, .ref h79, .ref h80, .ref h81, .ref h82, .ref h83, .ref h84, .ref h85, .ref h86, .ref h87, .ref h88, .ref h89, .ref h90, .ref h91, .int 0, .ref h92, .ref h93, .ref h94, .int 0])), (h48, .inl (k0, 4, .inl (upd (fun _ => 0) 1 1))), (h49, .inl (k1, 4, .inl (upd (fun _ => 0) 1 2))), (h50, .inl (k2, 400, .inl (upd (upd (fun _ => 0) 100 (((w0 >>> ((16 : Int32).toInt64 &&& 63)) &&& 65535).toInt32)) 101 (((w0 >>> ((0 : Int32).toInt64 &&& 63)) &&& 65535).toInt32))))] := hD_146
          clear hP_145 hD_145 hS_145
          refine lv_iload hx hb dX12_put__149 (lv_at hl_142 1 rfl) ?_
          refine lv_iload_n hx hb dX12_put__151 rfl (lv_at hl_142 4 rfl) ?_
          refine lv_iadd hx hb dX12_put__152 ?_
          refine lv_topi (fun x_147 ex_147 => ?_)
          obtain rfl : x_147 = 2 := ex_147.trans (by decide)
          have hP9 := hP_146.sub (ws' := []) [] rfl
          have hD9 := hD_146.sub (ws' := []) [] (by decide) rfl
          have hK9 := hK_3.sub (tys' := []) [] rfl
          refine W.widen (k := 0) (n := 0) (by decide) (by decide) ?_
          exact W.iret (v := 2) hx hb hr (fun t9 ht9 hW9 => ⟨⟨2, 4, rfl, (Or.inr (Or.inr (Or.inr (Or.inr ⟨rfl, rfl, cc_2_0, cc_2_1, cc_3_0, cc_3_1⟩)))), ⟨by rw [ht9]; exact hP9, va_K.moved hW9.alike hK9, hD9⟩⟩, hS_146.F ht9⟩) hS_146.2.2 dX12_put__153
        · refine va_zald hx hb hK_3 hP_3 1 0 rfl rfl (i := 2) (vpi (by decide)) dX12_put__34 ?_
          refine W.eq (g2 := F0 m 35 ls [.int 0]) rfl ?_
          refine lv_if_eq (tgt := 47) hx hb dX12_put__35 (by decide) (fun _ => ?_) (fun c_ => absurd (by decide) c_)
          refine lv_iconst (v := 0) hx hb dX12_put__47 (by decide) ?_
          refine lv_istore (lv' := [(5, .int 0), (0, .ref h0), (1, .int 2), (2, .int 2), (3, .long w0)]) hx hb dX12_put__48 hl (by decide) rfl (fun ls_148 hl_148 => ?_)
          clear hl
          refine lv_iload hx hb dX12_put__50 (lv_at hl_148 0 rfl) ?_
          refine lv_iload_n hx hb dX12_put__52 rfl (lv_at hl_148 3 rfl) ?_
          refine lv_iadd hx hb dX12_put__53 ?_
          refine lv_topi (fun x_149 ex_149 => ?_)
          obtain rfl : x_149 = 2 := ex_149.trans (by decide)
          refine lv_bipush (v := 100) hx hb dX12_put__54 (by decide) ?_
          refine lv_icmp_le (tgt := 62) hx hb dX12_put__56 (by decide) (fun _ => ?_) (fun c_ => absurd (by decide) c_)
          refine lv_iconst (v := 0) hx hb dX12_put__62 (by decide) ?_
          refine lv_istore (lv' := [(6, .int 0), (5, .int 0), (0, .ref h0), (1, .int 2), (2, .int 2), (3, .long w0)]) hx hb dX12_put__63 hl_148 (by decide) rfl (fun ls_150 hl_150 => ?_)
          clear hl_148
          refine lv_iload hx hb dX12_put__65 (lv_at hl_150 0 rfl) ?_
          refine lv_iload_n hx hb dX12_put__67 rfl (lv_at hl_150 4 rfl) ?_
          refine lv_icmp_ge (tgt := 108) hx hb dX12_put__68 (by decide) (fun c_ => absurd c_ (by decide)) (fun _ => ?_)
          refine lv_aload_n hx hb dX12_put__71 rfl (lv_at hl_150 2 rfl) ?_
          refine va_get (D := (dC, dI)) (ci := 15) (v := .ref h50) (C := RX12) (T := TX12) (N := 143) hx hb ht inX12 hown hK_3 hP_3 0 rfl rfl 70 (by decide) (ht _ tw_2210) (fun _ h9 => h9) rfl dX12_put__72 ?_
          refine lv_bipush (v := 100) hx hb dX12_put__75 (by decide) ?_
          refine lv_iload_n hx hb dX12_put__77 rfl (lv_at hl_150 3 rfl) ?_
          refine lv_imul hx hb dX12_put__78 ?_
          refine lv_topi (fun x_151 ex_151 => ?_)
          obtain rfl : x_151 = 200 := ex_151.trans (by decide)
          refine lv_iload hx hb dX12_put__79 (lv_at hl_150 1 rfl) ?_
          refine lv_iadd hx hb dX12_put__81 ?_
          refine lv_topi (fun x_152 ex_152 => ?_)
          obtain rfl : x_152 = 200 := ex_152.trans (by decide)
          refine lv_iload hx hb dX12_put__82 (lv_at hl_150 0 rfl) ?_
          refine lv_iadd hx hb dX12_put__84 ?_
          refine lv_topi (fun x_153 ex_153 => ?_)
          obtain rfl : x_153 = 200 := ex_153.trans (by decide)
          refine lv_lload_n hx hb dX12_put__85 rfl (lv_at hl_150 5 rfl) ?_
          refine lv_bipush (v := 16) hx hb dX12_put__86 (by decide) ?_
          refine lv_iload_n hx hb dX12_put__88 rfl (lv_at hl_150 4 rfl) ?_
          refine lv_iconst (v := 1) hx hb dX12_put__89 (by decide) ?_
          refine lv_isub hx hb dX12_put__90 ?_
          refine lv_topi (fun x_154 ex_154 => ?_)
          obtain rfl : x_154 = 1 := ex_154.trans (by decide)
          refine lv_iload hx hb dX12_put__91 (lv_at hl_150 0 rfl) ?_
          refine lv_isub hx hb dX12_put__93 ?_
          refine lv_topi (fun x_155 ex_155 => ?_)
          obtain rfl : x_155 = 1 := ex_155.trans (by decide)
          refine lv_imul hx hb dX12_put__94 ?_
          refine lv_topi (fun x_156 ex_156 => ?_)
          obtain rfl : x_156 = 16 := ex_156.trans (by decide)
          refine lv_lshr (v := (w0 >>> ((16 : Int32).toInt64 &&& 63))) hx hb dX12_put__95 rfl ?_
          refine lv_ldc2 hx hb hown (ht _ tw_2813) dX12_put__96 ?_
          refine lv_land hx hb dX12_put__99 ?_
          refine lv_l2i (v := ((w0 >>> ((16 : Int32).toInt64 &&& 63)) &&& 65535).toInt32) hx hb dX12_put__100 rfl ?_
          refine va_iast hx hb hK_3 hP_3 hD_3 hS_3 3 2 rfl rfl (i := 200) (vpi (by decide)) dX12_put__101 (fun H_157 locs_157 hP_157 hD_157 hS_157 => ?_)
          have hP_157 : va_P (dC, dI) vwCl [(h0, .inr (15, [.int 0, .int 0, .ref h1, .int 0, .int (-1), .ref h2, .ref h3, .ref h4, .ref h5, .ref h6, .ref h7, .ref h8, .ref h9, .ref h10, .ref h11, .ref h12, .ref h13, .ref h14, .ref h15, .ref h16, .ref h17, .ref h18, .ref h19, .ref h20, .ref h21, .ref h22, .ref h23, .ref h24, .ref h25, .ref h26, .ref h27, .int 0, .ref h28, .ref h29, .int 0, .int 0, .int 0, .int 0, .int 0, .int 0, .ref h30, .int 0, .ref h31, .ref h32, .ref h33, .ref h34, .ref h35, .ref h36, .ref h37, .ref h38, .int 0, .int 0, .int 0, .int 0, .ref h39, .ref h40, .ref h41, .int 0, .ref h42, .int 0, .ref h43, .int 0, .int 0, .ref h44, .ref h45, .ref h46, .int 0, .ref h47, .ref h48, .ref h49, .ref h50, .ref h51, .ref h52, .ref h53, .int 0, .ref h54, .int 0, .ref h55, .ref h56, .ref h57, .int 0, .ref h58, .ref h59, .ref h60, .ref h61, .int 0, .ref h62, .ref h63, .ref h64, .ref h65, .int 0, .int 0, .int 0, .int 0, .int 0, .int 0, .int 0, .int 0, .int 0, .ref h66, .int 0, .ref h67, .int 0, .int 0, .int 0, .int 0, .int 0, .ref h68, .int 0, .int 0, .ref h69, .int 0, .ref h70, .int 0, .ref h71, .ref h72, .int 0, .ref h73, .ref h74, .ref h75, .ref h76, .long 0, .int 0, .ref h77, .ref h78, .ref h79, .ref h80, .ref h81, .ref h82, .ref h83, .ref h84, .ref h85, .ref h86, .ref h87, .ref h88, .ref h89, .ref h90, .ref h91, .int 0, .ref h92, .ref h93, .ref h94, .int 0])), (h48, .inl (k0, 4, .inl (fun _ => 0))), (h49, .inl (k1, 4, .inl (fun _ => 0))), (h50, .inl (k2, 400, .inl (upd (fun _ => 0) 200 (((w0 >>> ((16 : Int32).toInt64 &&& 63)) &&& 65535).toInt32))))] H_157 := hP_157
          have hD_157 : va_D A [(h0, .inr (15, [.int 0, .int 0, .ref h1, .int 0, .int (-1), .ref h2, .ref h3, .ref h4, .ref h5, .ref h6, .ref h7, .ref h8, .ref h9, .ref h10, .ref h11, .ref h12, .ref h13, .ref h14, .ref h15, .ref h16, .ref h17, .ref h18, .ref h19, .ref h20, .ref h21, .ref h22, .ref h23, .ref h24, .ref h25, .ref h26, .ref h27, .int 0, .ref h28, .ref h29, .int 0, .int 0, .int 0, .int 0, .int 0, .int 0, .ref h30, .int 0, .ref h31, .ref h32, .ref h33, .ref h34, .ref h35, .ref h36, .ref h37, .ref h38, .int 0, .int 0, .int 0, .int 0, .ref h39, .ref h40, .ref h41, .int 0, .ref h42, .int 0, .ref h43, .int 0, .int 0, .ref h44, .ref h45, .ref h46, .int 0, .ref h47, .ref h48, .ref h49, .ref h50, .ref h51, .ref h52, .ref h53, .int 0, .ref h54, .int 0, .ref h55, .ref h56, .ref h57, .int 0, .ref h58, .ref h59, .ref h60, .ref h61, .int 0, .ref h62, .ref h63, .ref h64, .ref h65, .int 0, .int 0, .int 0, .int 0, .int 0, .int 0, .int 0, .int 0, .int 0, .ref h66, .int 0, .ref h67, .int 0, .int 0, .int 0, .int 0, .int 0, .ref h68, .int 0, .int 0, .ref h69, .int 0, .ref h70, .int 0, .ref h71, .ref h72, .int 0, .ref h73, .ref h74, .ref h75, .ref h76, .long 0, .int 0, .ref h77, .ref h78, .ref h79, .ref h80, .ref h81, .ref h82, .ref h83, .ref h84, .ref h85, .ref h86, .ref h87, .ref h88, .ref h89, .ref h90, .ref h91, .int 0, .ref h92, .ref h93, .ref h94, .int 0])), (h48, .inl (k0, 4, .inl (fun _ => 0))), (h49, .inl (k1, 4, .inl (fun _ => 0))), (h50, .inl (k2, 400, .inl (upd (fun _ => 0) 200 (((w0 >>> ((16 : Int32).toInt64 &&& 63)) &&& 65535).toInt32))))] := hD_157
          clear hP_3 hD_3 hS_3
          refine lv_iinc (v := 1) (lv' := [(6, .int 1), (5, .int 0), (0, .ref h0), (1, .int 2), (2, .int 2), (3, .long w0)]) hx hb dX12_put__102 hl_150 (k := 0) rfl (by decide) (by decide) rfl (fun ls_158 hl_158 => ?_)
          clear hl_150
          refine lv_goto (tgt := 65) hx hb dX12_put__105 (by decide) ?_
          refine lv_iload hx hb dX12_put__65 (lv_at hl_158 0 rfl) ?_
          refine lv_iload_n hx hb dX12_put__67 rfl (lv_at hl_158 4 rfl) ?_
          refine lv_icmp_ge (tgt := 108) hx hb dX12_put__68 (by decide) (fun c_ => absurd c_ (by decide)) (fun _ => ?_)
          refine lv_aload_n hx hb dX12_put__71 rfl (lv_at hl_158 2 rfl) ?_
          refine va_get (D := (dC, dI)) (ci := 15) (v := .ref h50) (C := RX12) (T := TX12) (N := 143) hx hb ht inX12 hown hK_3 hP_157 0 rfl rfl 70 (by decide) (ht _ tw_2210) (fun _ h9 => h9) rfl dX12_put__72 ?_
          refine lv_bipush (v := 100) hx hb dX12_put__75 (by decide) ?_
          refine lv_iload_n hx hb dX12_put__77 rfl (lv_at hl_158 3 rfl) ?_
          refine lv_imul hx hb dX12_put__78 ?_
          refine lv_topi (fun x_159 ex_159 => ?_)
          obtain rfl : x_159 = 200 := ex_159.trans (by decide)
          refine lv_iload hx hb dX12_put__79 (lv_at hl_158 1 rfl) ?_
          refine lv_iadd hx hb dX12_put__81 ?_
          refine lv_topi (fun x_160 ex_160 => ?_)
          obtain rfl : x_160 = 200 := ex_160.trans (by decide)
          refine lv_iload hx hb dX12_put__82 (lv_at hl_158 0 rfl) ?_
          refine lv_iadd hx hb dX12_put__84 ?_
          refine lv_topi (fun x_161 ex_161 => ?_)
          obtain rfl : x_161 = 201 := ex_161.trans (by decide)
          refine lv_lload_n hx hb dX12_put__85 rfl (lv_at hl_158 5 rfl) ?_
          refine lv_bipush (v := 16) hx hb dX12_put__86 (by decide) ?_
          refine lv_iload_n hx hb dX12_put__88 rfl (lv_at hl_158 4 rfl) ?_
          refine lv_iconst (v := 1) hx hb dX12_put__89 (by decide) ?_
          refine lv_isub hx hb dX12_put__90 ?_
          refine lv_topi (fun x_162 ex_162 => ?_)
          obtain rfl : x_162 = 1 := ex_162.trans (by decide)
          refine lv_iload hx hb dX12_put__91 (lv_at hl_158 0 rfl) ?_
          refine lv_isub hx hb dX12_put__93 ?_
          refine lv_topi (fun x_163 ex_163 => ?_)
          obtain rfl : x_163 = 0 := ex_163.trans (by decide)
          refine lv_imul hx hb dX12_put__94 ?_
          refine lv_topi (fun x_164 ex_164 => ?_)
          obtain rfl : x_164 = 0 := ex_164.trans (by decide)
          refine lv_lshr (v := (w0 >>> ((0 : Int32).toInt64 &&& 63))) hx hb dX12_put__95 rfl ?_
          refine lv_ldc2 hx hb hown (ht _ tw_2813) dX12_put__96 ?_
          refine lv_land hx hb dX12_put__99 ?_
          refine lv_l2i (v := ((w0 >>> ((0 : Int32).toInt64 &&& 63)) &&& 65535).toInt32) hx hb dX12_put__100 rfl ?_
          refine va_iast hx hb hK_3 hP_157 hD_157 hS_157 3 2 rfl rfl (i := 201) (vpi (by decide)) dX12_put__101 (fun H_165 locs_165 hP_165 hD_165 hS_165 => ?_)
          have hP_165 : va_P (dC, dI) vwCl [(h0, .inr (15, [.int 0, .int 0, .ref h1, .int 0, .int (-1), .ref h2, .ref h3, .ref h4, .ref h5, .ref h6, .ref h7, .ref h8, .ref h9, .ref h10, .ref h11, .ref h12, .ref h13, .ref h14, .ref h15, .ref h16, .ref h17, .ref h18, .ref h19, .ref h20, .ref h21, .ref h22, .ref h23, .ref h24, .ref h25, .ref h26, .ref h27, .int 0, .ref h28, .ref h29, .int 0, .int 0, .int 0, .int 0, .int 0, .int 0, .ref h30, .int 0, .ref h31, .ref h32, .ref h33, .ref h34, .ref h35, .ref h36, .ref h37, .ref h38, .int 0, .int 0, .int 0, .int 0, .ref h39, .ref h40, .ref h41, .int 0, .ref h42, .int 0, .ref h43, .int 0, .int 0, .ref h44, .ref h45, .ref h46, .int 0, .ref h47, .ref h48, .ref h49, .ref h50, .ref h51, .ref h52, .ref h53, .int 0, .ref h54, .int 0, .ref h55, .ref h56, .ref h57, .int 0, .ref h58, .ref h59, .ref h60, .ref h61, .int 0, .ref h62, .ref h63, .ref h64, .ref h65, .int 0, .int 0, .int 0, .int 0, .int 0, .int 0, .int 0, .int 0, .int 0, .ref h66, .int 0, .ref h67, .int 0, .int 0, .int 0, .int 0, .int 0, .ref h68, .int 0, .int 0, .ref h69, .int 0, .ref h70, .int 0, .ref h71, .ref h72, .int 0, .ref h73, .ref h74, .ref h75, .ref h76, .long 0, .int 0, .ref h77, .ref h78, .ref h79, .ref h80, .ref h81, .ref h82, .ref h83, .ref h84, .ref h85, .ref h86, .ref h87, .ref h88, .ref h89, .ref h90, .ref h91, .int 0, .ref h92, .ref h93, .ref h94, .int 0])), (h48, .inl (k0, 4, .inl (fun _ => 0))), (h49, .inl (k1, 4, .inl (fun _ => 0))), (h50, .inl (k2, 400, .inl (upd (upd (fun _ => 0) 200 (((w0 >>> ((16 : Int32).toInt64 &&& 63)) &&& 65535).toInt32)) 201 (((w0 >>> ((0 : Int32).toInt64 &&& 63)) &&& 65535).toInt32))))] H_165 := hP_165
          have hD_165 : va_D A [(h0, .inr (15, [.int 0, .int 0, .ref h1, .int 0, .int (-1), .ref h2, .ref h3, .ref h4, .ref h5, .ref h6, .ref h7, .ref h8, .ref h9, .ref h10, .ref h11, .ref h12, .ref h13, .ref h14, .ref h15, .ref h16, .ref h17, .ref h18, .ref h19, .ref h20, .ref h21, .ref h22, .ref h23, .ref h24, .ref h25, .ref h26, .ref h27, .int 0, .ref h28, .ref h29, .int 0, .int 0, .int 0, .int 0, .int 0, .int 0, .ref h30, .int 0, .ref h31, .ref h32, .ref h33, .ref h34, .ref h35, .ref h36, .ref h37, .ref h38, .int 0, .int 0, .int 0, .int 0, .ref h39, .ref h40, .ref h41, .int 0, .ref h42, .int 0, .ref h43, .int 0, .int 0, .ref h44, .ref h45, .ref h46, .int 0, .ref h47, .ref h48, .ref h49, .ref h50, .ref h51, .ref h52, .ref h53, .int 0, .ref h54, .int 0, .ref h55, .ref h56, .ref h57, .int 0, .ref h58, .ref h59, .ref h60, .ref h61, .int 0, .ref h62, .ref h63, .ref h64, .ref h65, .int 0, .int 0, .int 0, .int 0, .int 0, .int 0, .int 0, .int 0, .int 0, .ref h66, .int 0, .ref h67, .int 0, .int 0, .int 0, .int 0, .int 0, .ref h68, .int 0, .int 0, .ref h69, .int 0, .ref h70, .int 0, .ref h71, .ref h72, .int 0, .ref h73, .ref h74, .ref h75, .ref h76, .long 0, .int 0, .ref h77, .ref h78, .ref h79, .ref h80, .ref h81, .ref h82, .ref h83, .ref h84, .ref h85, .ref h86, .ref h87, .ref h88, .ref h89, .ref h90, .ref h91, .int 0, .ref h92, .ref h93, .ref h94, .int 0])), (h48, .inl (k0, 4, .inl (fun _ => 0))), (h49, .inl (k1, 4, .inl (fun _ => 0))), (h50, .inl (k2, 400, .inl (upd (upd (fun _ => 0) 200 (((w0 >>> ((16 : Int32).toInt64 &&& 63)) &&& 65535).toInt32)) 201 (((w0 >>> ((0 : Int32).toInt64 &&& 63)) &&& 65535).toInt32))))] := hD_165
          clear hP_157 hD_157 hS_157
          refine lv_iinc (v := 2) (lv' := [(6, .int 2), (5, .int 0), (0, .ref h0), (1, .int 2), (2, .int 2), (3, .long w0)]) hx hb dX12_put__102 hl_158 (k := 0) rfl (by decide) (by decide) rfl (fun ls_166 hl_166 => ?_)
          clear hl_158
          refine lv_goto (tgt := 65) hx hb dX12_put__105 (by decide) ?_
          refine lv_iload hx hb dX12_put__65 (lv_at hl_166 0 rfl) ?_
          refine lv_iload_n hx hb dX12_put__67 rfl (lv_at hl_166 4 rfl) ?_
          refine lv_icmp_ge (tgt := 108) hx hb dX12_put__68 (by decide) (fun _ => ?_) (fun c_ => absurd (by decide) c_)
          refine lv_aload_n hx hb dX12_put__108 rfl (lv_at hl_166 2 rfl) ?_
          refine va_get (D := (dC, dI)) (ci := 15) (v := .ref h48) (C := RX12) (T := TX12) (N := 143) hx hb ht inX12 hown hK_3 hP_165 0 rfl rfl 68 (by decide) (ht _ tw_2208) (fun _ h9 => h9) rfl dX12_put__109 ?_
          refine lv_iload_n hx hb dX12_put__112 rfl (lv_at hl_166 3 rfl) ?_
          refine lv_iconst (v := 1) hx hb dX12_put__113 (by decide) ?_
          refine va_zast hx hb hK_3 hP_165 hD_165 hS_165 1 0 rfl rfl (i := 2) (vpi (by decide)) dX12_put__114 (fun H_167 locs_167 hP_167 hD_167 hS_167 => ?_)
          have hP_167 : va_P (dC, dI) vwCl [(h0, .inr (15, [.int 0, .int 0, .ref h1, .int 0, .int (-1), .ref h2, .ref h3, .ref h4, .ref h5, .ref h6, .ref h7, .ref h8, .ref h9, .ref h10, .ref h11, .ref h12, .ref h13, .ref h14, .ref h15, .ref h16, .ref h17, .ref h18, .ref h19, .ref h20, .ref h21, .ref h22, .ref h23, .ref h24, .ref h25, .ref h26, .ref h27, .int 0, .ref h28, .ref h29, .int 0, .int 0, .int 0, .int 0, .int 0, .int 0, .ref h30, .int 0, .ref h31, .ref h32, .ref h33, .ref h34, .ref h35, .ref h36, .ref h37, .ref h38, .int 0, .int 0, .int 0, .int 0, .ref h39, .ref h40, .ref h41, .int 0, .ref h42, .int 0, .ref h43, .int 0, .int 0, .ref h44, .ref h45, .ref h46, .int 0, .ref h47, .ref h48, .ref h49, .ref h50, .ref h51, .ref h52, .ref h53, .int 0, .ref h54, .int 0, .ref h55, .ref h56, .ref h57, .int 0, .ref h58, .ref h59, .ref h60, .ref h61, .int 0, .ref h62, .ref h63, .ref h64, .ref h65, .int 0, .int 0, .int 0, .int 0, .int 0, .int 0, .int 0, .int 0, .int 0, .ref h66, .int 0, .ref h67, .int 0, .int 0, .int 0, .int 0, .int 0, .ref h68, .int 0, .int 0, .ref h69, .int 0, .ref h70, .int 0, .ref h71, .ref h72, .int 0, .ref h73, .ref h74, .ref h75, .ref h76, .long 0, .int 0, .ref h77, .ref h78, .ref h79, .ref h80, .ref h81, .ref h82, .ref h83, .ref h84, .ref h85, .ref h86, .ref h87, .ref h88, .ref h89, .ref h90, .ref h91, .int 0, .ref h92, .ref h93, .ref h94, .int 0])), (h48, .inl (k0, 4, .inl (upd (fun _ => 0) 2 1))), (h49, .inl (k1, 4, .inl (fun _ => 0))), (h50, .inl (k2, 400, .inl (upd (upd (fun _ => 0) 200 (((w0 >>> ((16 : Int32).toInt64 &&& 63)) &&& 65535).toInt32)) 201 (((w0 >>> ((0 : Int32).toInt64 &&& 63)) &&& 65535).toInt32))))] H_167 := hP_167
          have hD_167 : va_D A [(h0, .inr (15, [.int 0, .int 0, .ref h1, .int 0, .int (-1), .ref h2, .ref h3, .ref h4, .ref h5, .ref h6, .ref h7, .ref h8, .ref h9, .ref h10, .ref h11, .ref h12, .ref h13, .ref h14, .ref h15, .ref h16, .ref h17, .ref h18, .ref h19, .ref h20, .ref h21, .ref h22, .ref h23, .ref h24, .ref h25, .ref h26, .ref h27, .int 0, .ref h28, .ref h29, .int 0, .int 0, .int 0, .int 0, .int 0, .int 0, .ref h30, .int 0, .ref h31, .ref h32, .ref h33, .ref h34, .ref h35, .ref h36, .ref h37, .ref h38, .int 0, .int 0, .int 0, .int 0, .ref h39, .ref h40, .ref h41, .int 0, .ref h42, .int 0, .ref h43, .int 0, .int 0, .ref h44, .ref h45, .ref h46, .int 0, .ref h47, .ref h48, .ref h49, .ref h50, .ref h51, .ref h52, .ref h53, .int 0, .ref h54, .int 0, .ref h55, .ref h56, .ref h57, .int 0, .ref h58, .ref h59, .ref h60, .ref h61, .int 0, .ref h62, .ref h63, .ref h64, .ref h65, .int 0, .int 0, .int 0, .int 0, .int 0, .int 0, .int 0, .int 0, .int 0, .ref h66, .int 0, .ref h67, .int 0, .int 0, .int 0, .int 0, .int 0, .ref h68, .int 0, .int 0, .ref h69, .int 0, .ref h70, .int 0, .ref h71, .ref h72, .int 0, .ref h73, .ref h74, .ref h75, .ref h76, .long 0, .int 0, .ref h77, .ref h78, .ref h79, .ref h80, .ref h81, .ref h82, .ref h83, .ref h84, .ref h85, .ref h86, .ref h87, .ref h88, .ref h89, .ref h90, .ref h91, .int 0, .ref h92, .ref h93, .ref h94, .int 0])), (h48, .inl (k0, 4, .inl (upd (fun _ => 0) 2 1))), (h49, .inl (k1, 4, .inl (fun _ => 0))), (h50, .inl (k2, 400, .inl (upd (upd (fun _ => 0) 200 (((w0 >>> ((16 : Int32).toInt64 &&& 63)) &&& 65535).toInt32)) 201 (((w0 >>> ((0 : Int32).toInt64 &&& 63)) &&& 65535).toInt32))))] := hD_167
          clear hP_165 hD_165 hS_165
          refine lv_aload_n hx hb dX12_put__115 rfl (lv_at hl_166 2 rfl) ?_
          refine va_get (D := (dC, dI)) (ci := 15) (v := .ref h49) (C := RX12) (T := TX12) (N := 143) hx hb ht inX12 hown hK_3 hP_167 0 rfl rfl 69 (by decide) (ht _ tw_2209) (fun _ h9 => h9) rfl dX12_put__116 ?_
          refine lv_iload_n hx hb dX12_put__119 rfl (lv_at hl_166 3 rfl) ?_
          refine lv_iload hx hb dX12_put__120 (lv_at hl_166 1 rfl) ?_
          refine lv_iload_n hx hb dX12_put__122 rfl (lv_at hl_166 4 rfl) ?_
          refine lv_iadd hx hb dX12_put__123 ?_
          refine lv_topi (fun x_168 ex_168 => ?_)
          obtain rfl : x_168 = 2 := ex_168.trans (by decide)
          refine va_iast hx hb hK_3 hP_167 hD_167 hS_167 2 1 rfl rfl (i := 2) (vpi (by decide)) dX12_put__124 (fun H_169 locs_169 hP_169 hD_169 hS_169 => ?_)
          have hP_169 : va_P (dC, dI) vwCl [(h0, .inr (15, [.int 0, .int 0, .ref h1, .int 0, .int (-1), .ref h2, .ref h3, .ref h4, .ref h5, .ref h6, .ref h7, .ref h8, .ref h9, .ref h10, .ref h11, .ref h12, .ref h13, .ref h14, .ref h15, .ref h16, .ref h17, .ref h18, .ref h19, .ref h20, .ref h21, .ref h22, .ref h23, .ref h24, .ref h25, .ref h26, .ref h27, .int 0, .ref h28, .ref h29, .int 0, .int 0, .int 0, .int 0, .int 0, .int 0, .ref h30, .int 0, .ref h31, .ref h32, .ref h33, .ref h34, .ref h35, .ref h36, .ref h37, .ref h38, .int 0, .int 0, .int 0, .int 0, .ref h39, .ref h40, .ref h41, .int 0, .ref h42, .int 0, .ref h43, .int 0, .int 0, .ref h44, .ref h45, .ref h46, .int 0, .ref h47, .ref h48, .ref h49, .ref h50, .ref h51, .ref h52, .ref h53, .int 0, .ref h54, .int 0, .ref h55, .ref h56, .ref h57, .int 0, .ref h58, .ref h59, .ref h60, .ref h61, .int 0, .ref h62, .ref h63, .ref h64, .ref h65, .int 0, .int 0, .int 0, .int 0, .int 0, .int 0, .int 0, .int 0, .int 0, .ref h66, .int 0, .ref h67, .int 0, .int 0, .int 0, .int 0, .int 0, .ref h68, .int 0, .int 0, .ref h69, .int 0, .ref h70, .int 0, .ref h71, .ref h72, .int 0, .ref h73, .ref h74, .ref h75, .ref h76, .long 0, .int 0, .ref h77, .ref h78, .ref h79, .ref h80, .ref h81, .ref h82, .ref h83, .ref h84, .ref h85, .ref h86, .ref h87, .ref h88, .ref h89, .ref h90, .ref h91, .int 0, .ref h92, .ref h93, .ref h94, .int 0])), (h48, .inl (k0, 4, .inl (upd (fun _ => 0) 2 1))), (h49, .inl (k1, 4, .inl (upd (fun _ => 0) 2 2))), (h50, .inl (k2, 400, .inl (upd (upd (fun _ => 0) 200 (((w0 >>> ((16 : Int32).toInt64 &&& 63)) &&& 65535).toInt32)) 201 (((w0 >>> ((0 : Int32).toInt64 &&& 63)) &&& 65535).toInt32))))] H_169 := hP_169
          have hD_169 : va_D A [(h0, .inr (15, [.int 0, .int 0, .ref h1, .int 0, .int (-1), .ref h2, .ref h3, .ref h4, .ref h5, .ref h6, .ref h7, .ref h8, .ref h9, .ref h10, .ref h11, .ref h12, .ref h13, .ref h14, .ref h15, .ref h16, .ref h17, .ref h18, .ref h19, .ref h20, .ref h21, .ref h22, .ref h23, .ref h24, .ref h25, .ref h26, .ref h27, .int 0, .ref h28, .ref h29, .int 0, .int 0, .int 0, .int 0, .int 0, .int 0, .ref h30, .int 0, .ref h31, .ref h32, .ref h33, .ref h34, .ref h35, .ref h36, .ref h37, .ref h38, .int 0, .int 0, .int 0, .int 0, .ref h39, .ref h40, .ref h41, .int 0, .ref h42, .int 0, .ref h43, .int 0, .int 0, .ref h44, .ref h45, .ref h46, .int 0, .ref h47, .ref h48, .ref h49, .ref h50, .ref h51, .ref h52, .ref h53, .int 0, .ref h54, .int 0, .ref h55, .ref h56, .ref h57, .int 0, .ref h58, .ref h59, .ref h60, .ref h61, .int 0, .ref h62, .ref h63, .ref h64, .ref h65, .int 0, .int 0, .int 0, .int 0, .int 0, .int 0, .int 0, .int 0, .int 0, .ref h66, .int 0, .ref h67, .int 0, .int 0, .int 0, .int 0, .int 0, .ref h68, .int 0, .int 0, .ref h69, .int 0, .ref h70, .int 0, .ref h71, .ref h72, .int 0, .ref h73, .ref h74, .ref h75, .ref h76, .long 0, .int 0, .ref h77, .ref h78, .ref h79, .ref h80, .ref h81, .ref h82, .ref h83, .ref h84, .ref h85, .ref h86, .ref h87, .ref h88, .ref h89, .ref h90, .ref h91, .int 0, .ref h92, .ref h93, .ref h94, .int 0])), (h48, .inl (k0, 4, .inl (upd (fun _ => 0) 2 1))), (h49, .inl (k1, 4, .inl (upd (fun _ => 0) 2 2))), (h50, .inl (k2, 400, .inl (upd (upd (fun _ => 0) 200 (((w0 >>> ((16 : Int32).toInt64 &&& 63)) &&& 65535).toInt32)) 201 (((w0 >>> ((0 : Int32).toInt64 &&& 63)) &&& 65535).toInt32))))] := hD_169
          clear hP_167 hD_167 hS_167
          refine lv_aload_n hx hb dX12_put__125 rfl (lv_at hl_166 2 rfl) ?_
          refine lv_aload_n hx hb dX12_put__126 rfl (lv_at hl_166 2 rfl) ?_
          refine va_get (D := (dC, dI)) (ci := 15) (v := .int 0) (C := RX12) (T := TX12) (N := 143) hx hb ht inX12 hown hK_3 hP_169 0 rfl rfl 102 (by decide) (ht _ tw_2242) (fun _ h9 => h9) rfl dX12_put__127 ?_
          refine lv_if_eq (tgt := 145) hx hb dX12_put__130 (by decide) (fun _ => ?_) (fun c_ => absurd (by decide) c_)
          refine lv_iconst (v := 0) hx hb dX12_put__145 (by decide) ?_
          refine va_put (D := (dC, dI)) (ci := 15) (v := .int 0) (ty := .boolean) (C := RX12) (T := TX12) (N := 143) hx hb ht inX12 tyX12 tyX12_ok nmX12 hown hK_3 hP_169 hD_169 hS_169 0 rfl rfl 102 (by decide) (ht _ tw_2242) (fun _ h9 => h9) rfl (by decide +kernel) rfl rfl (Nat.le_of_ble_eq_true rfl) dX12_put__146 (fun H_170 locs_170 hP_170 hD_170 hS_170 => ?_)
          have hP_170 : va_P (dC, dI) vwCl [(h0, .inr (15, [.int 0, .int 0, .ref h1, .int 0, .int (-1), .ref h2, .ref h3, .ref h4, .ref h5, .ref h6, .ref h7, .ref h8, .ref h9, .ref h10, .ref h11, .ref h12, .ref h13, .ref h14, .ref h15, .ref h16, .ref h17, .ref h18, .ref h19, .ref h20, .ref h21, .ref h22, .ref h23, .ref h24, .ref h25, .ref h26, .ref h27, .int 0, .ref h28, .ref h29, .int 0, .int 0, .int 0, .int 0, .int 0, .int 0, .ref h30, .int 0, .ref h31, .ref h32, .ref h33, .ref h34, .ref h35, .ref h36, .ref h37, .ref h38, .int 0, .int 0, .int 0, .int 0, .ref h39, .ref h40, .ref h41, .int 0, .ref h42, .int 0, .ref h43, .int 0, .int 0, .ref h44, .ref h45, .ref h46, .int 0, .ref h47, .ref h48, .ref h49, .ref h50, .ref h51, .ref h52, .ref h53, .int 0, .ref h54, .int 0, .ref h55, .ref h56, .ref h57, .int 0, .ref h58, .ref h59, .ref h60, .ref h61, .int 0, .ref h62, .ref h63, .ref h64, .ref h65, .int 0, .int 0, .int 0, .int 0, .int 0, .int 0, .int 0, .int 0, .int 0, .ref h66, .int 0, .ref h67, .int 0, .int 0, .int 0, .int 0, .int 0, .ref h68, .int 0, .int 0, .ref h69, .int 0, .ref h70, .int 0, .ref h71, .ref h72, .int 0, .ref h73, .ref h74, .ref h75, .ref h76, .long 0, .int 0, .ref h77, .ref h78, .ref h79, .ref h80, .ref h81, .ref h82, .ref h83, .ref h84, .ref h85, .ref h86, .ref h87, .ref h88, .ref h89, .ref h90, .ref h91, .int 0, .ref h92, .ref h93, .ref h94, .int 0])), (h48, .inl (k0, 4, .inl (upd (fun _ => 0) 2 1))), (h49, .inl (k1, 4, .inl (upd (fun _ => 0) 2 2))), (h50, .inl (k2, 400, .inl (upd (upd (fun _ => 0) 200 (((w0 >>> ((16 : Int32).toInt64 &&& 63)) &&& 65535).toInt32)) 201 (((w0 >>> ((0 : Int32).toInt64 &&& 63)) &&& 65535).toInt32))))] H_170 := hP_170
          have hD_170 : va_D A [(h0, .inr (15, [.int 0, .int 0, .ref h1, .int 0, .int (-1), .ref h2, .ref h3, .ref h4, .ref h5, .ref h6, .ref h7, .ref h8, .ref h9, .ref h10, .ref h11, .ref h12, .ref h13, .ref h14, .ref h15, .ref h16, .ref h17, .ref h18, .ref h19, .ref h20, .ref h21, .ref h22, .ref h23, .ref h24, .ref h25, .ref h26, .ref h27, .int 0, .ref h28, .ref h29, .int 0, .int 0, .int 0, .int 0, .int 0, .int 0, .ref h30, .int 0, .ref h31, .ref h32, .ref h33, .ref h34, .ref h35, .ref h36, .ref h37, .ref h38, .int 0, .int 0, .int 0, .int 0, .ref h39, .ref h40, .ref h41, .int 0, .ref h42, .int 0, .ref h43, .int 0, .int 0, .ref h44, .ref h45, .ref h46, .int 0, .ref h47, .ref h48, .ref h49, .ref h50, .ref h51, .ref h52, .ref h53, .int 0, .ref h54, .int 0, .ref h55, .ref h56, .ref h57, .int 0, .ref h58, .ref h59, .ref h60, .ref h61, .int 0, .ref h62, .ref h63, .ref h64, .ref h65, .int 0, .int 0, .int 0, .int 0, .int 0, .int 0, .int 0, .int 0, .int 0, .ref h66, .int 0, .ref h67, .int 0, .int 0, .int 0, .int 0, .int 0, .ref h68, .int 0, .int 0, .ref h69, .int 0, .ref h70, .int 0, .ref h71, .ref h72, .int 0, .ref h73, .ref h74, .ref h75, .ref h76, .long 0, .int 0, .ref h77, .ref h78, .ref h79, .ref h80, .ref h81, .ref h82, .ref h83, .ref h84, .ref h85, .ref h86, .ref h87, .ref h88, .ref h89, .ref h90, .ref h91, .int 0, .ref h92, .ref h93, .ref h94, .int 0])), (h48, .inl (k0, 4, .inl (upd (fun _ => 0) 2 1))), (h49, .inl (k1, 4, .inl (upd (fun _ => 0) 2 2))), (h50, .inl (k2, 400, .inl (upd (upd (fun _ => 0) 200 (((w0 >>> ((16 : Int32).toInt64 &&& 63)) &&& 65535).toInt32)) 201 (((w0 >>> ((0 : Int32).toInt64 &&& 63)) &&& 65535).toInt32))))] := hD_170
          clear hP_169 hD_169 hS_169
          refine lv_iload hx hb dX12_put__149 (lv_at hl_166 1 rfl) ?_
          refine lv_iload_n hx hb dX12_put__151 rfl (lv_at hl_166 4 rfl) ?_
          refine lv_iadd hx hb dX12_put__152 ?_
          refine lv_topi (fun x_171 ex_171 => ?_)
          obtain rfl : x_171 = 2 := ex_171.trans (by decide)
          have hP9 := hP_170.sub (ws' := []) [] rfl
          have hD9 := hD_170.sub (ws' := []) [] (by decide) rfl
          have hK9 := hK_3.sub (tys' := []) [] rfl
          refine W.widen (k := 0) (n := 0) (by decide) (by decide) ?_
          exact W.iret (v := 2) hx hb hr (fun t9 ht9 hW9 => ⟨⟨2, 4, rfl, (Or.inr (Or.inr (Or.inr (Or.inr ⟨rfl, rfl, cc_2_0, cc_2_1, cc_3_0, cc_3_1⟩)))), ⟨by rw [ht9]; exact hP9, va_K.moved hW9.alike hK9, hD9⟩⟩, hS_170.F ht9⟩) hS_170.2.2 dX12_put__153
        · refine va_zald hx hb hK_3 hP_3 1 0 rfl rfl (i := 3) (vpi (by decide)) dX12_put__34 ?_
          refine W.eq (g2 := F0 m 35 ls [.int 0]) rfl ?_
          refine lv_if_eq (tgt := 47) hx hb dX12_put__35 (by decide) (fun _ => ?_) (fun c_ => absurd (by decide) c_)
          refine lv_iconst (v := 0) hx hb dX12_put__47 (by decide) ?_
          refine lv_istore (lv' := [(5, .int 0), (0, .ref h0), (1, .int 3), (2, .int 2), (3, .long w0)]) hx hb dX12_put__48 hl (by decide) rfl (fun ls_172 hl_172 => ?_)
          clear hl
          refine lv_iload hx hb dX12_put__50 (lv_at hl_172 0 rfl) ?_
          refine lv_iload_n hx hb dX12_put__52 rfl (lv_at hl_172 3 rfl) ?_
          refine lv_iadd hx hb dX12_put__53 ?_
          refine lv_topi (fun x_173 ex_173 => ?_)
          obtain rfl : x_173 = 2 := ex_173.trans (by decide)
          refine lv_bipush (v := 100) hx hb dX12_put__54 (by decide) ?_
          refine lv_icmp_le (tgt := 62) hx hb dX12_put__56 (by decide) (fun _ => ?_) (fun c_ => absurd (by decide) c_)
          refine lv_iconst (v := 0) hx hb dX12_put__62 (by decide) ?_
          refine lv_istore (lv' := [(6, .int 0), (5, .int 0), (0, .ref h0), (1, .int 3), (2, .int 2), (3, .long w0)]) hx hb dX12_put__63 hl_172 (by decide) rfl (fun ls_174 hl_174 => ?_)
          clear hl_172
          refine lv_iload hx hb dX12_put__65 (lv_at hl_174 0 rfl) ?_
          refine lv_iload_n hx hb dX12_put__67 rfl (lv_at hl_174 4 rfl) ?_
          refine lv_icmp_ge (tgt := 108) hx hb dX12_put__68 (by decide) (fun c_ => absurd c_ (by decide)) (fun _ => ?_)
          refine lv_aload_n hx hb dX12_put__71 rfl (lv_at hl_174 2 rfl) ?_
          refine va_get (D := (dC, dI)) (ci := 15) (v := .ref h50) (C := RX12) (T := TX12) (N := 143) hx hb ht inX12 hown hK_3 hP_3 0 rfl rfl 70 (by decide) (ht _ tw_2210) (fun _ h9 => h9) rfl dX12_put__72 ?_
          refine lv_bipush (v := 100) hx hb dX12_put__75 (by decide) ?_
          refine lv_iload_n hx hb dX12_put__77 rfl (lv_at hl_174 3 rfl) ?_
          refine lv_imul hx hb dX12_put__78 ?_
          refine lv_topi (fun x_175 ex_175 => ?_)
          obtain rfl : x_175 = 300 := ex_175.trans (by decide)
          refine lv_iload hx hb dX12_put__79 (lv_at hl_174 1 rfl) ?_
          refine lv_iadd hx hb dX12_put__81 ?_
          refine lv_topi (fun x_176 ex_176 => ?_)
          obtain rfl : x_176 = 300 := ex_176.trans (by decide)
          refine lv_iload hx hb dX12_put__82 (lv_at hl_174 0 rfl) ?_
          refine lv_iadd hx hb dX12_put__84 ?_
          refine lv_topi (fun x_177 ex_177 => ?_)
          obtain rfl : x_177 = 300 := ex_177.trans (by decide)
          refine lv_lload_n hx hb dX12_put__85 rfl (lv_at hl_174 5 rfl) ?_
          refine lv_bipush (v := 16) hx hb dX12_put__86 (by decide) ?_
          refine lv_iload_n hx hb dX12_put__88 rfl (lv_at hl_174 4 rfl) ?_
          refine lv_iconst (v := 1) hx hb dX12_put__89 (by decide) ?_
          refine lv_isub hx hb dX12_put__90 ?_
          refine lv_topi (fun x_178 ex_178 => ?_)
          obtain rfl : x_178 = 1 := ex_178.trans (by decide)
          refine lv_iload hx hb dX12_put__91 (lv_at hl_174 0 rfl) ?_
          refine lv_isub hx hb dX12_put__93 ?_
          refine lv_topi (fun x_179 ex_179 => ?_)
          obtain rfl : x_179 = 1 := ex_179.trans (by decide)
          refine lv_imul hx hb dX12_put__94 ?_
          refine lv_topi (fun x_180 ex_180 => ?_)
          obtain rfl : x_180 = 16 := ex_180.trans (by decide)
          refine lv_lshr (v := (w0 >>> ((16 : Int32).toInt64 &&& 63))) hx hb dX12_put__95 rfl ?_
          refine lv_ldc2 hx hb hown (ht _ tw_2813) dX12_put__96 ?_
          refine lv_land hx hb dX12_put__99 ?_
          refine lv_l2i (v := ((w0 >>> ((16 : Int32).toInt64 &&& 63)) &&& 65535).toInt32) hx hb dX12_put__100 rfl ?_
          refine va_iast hx hb hK_3 hP_3 hD_3 hS_3 3 2 rfl rfl (i := 300) (vpi (by decide)) dX12_put__101 (fun H_181 locs_181 hP_181 hD_181 hS_181 => ?_)
          have hP_181 : va_P (dC, dI) vwCl [(h0, .inr (15, [.int 0, .int 0, .ref h1, .int 0, .int (-1), .ref h2, .ref h3, .ref h4, .ref h5, .ref h6, .ref h7, .ref h8, .ref h9, .ref h10, .ref h11, .ref h12, .ref h13, .ref h14, .ref h15, .ref h16, .ref h17, .ref h18, .ref h19, .ref h20, .ref h21, .ref h22, .ref h23, .ref h24, .ref h25, .ref h26, .ref h27, .int 0, .ref h28, .ref h29, .int 0, .int 0, .int 0, .int 0, .int 0, .int 0, .ref h30, .int 0, .ref h31, .ref h32, .ref h33, .ref h34, .ref h35, .ref h36, .ref h37, .ref h38, .int 0, .int 0, .int 0, .int 0, .ref h39, .ref h40, .ref h41, .int 0, .ref h42, .int 0, .ref h43, .int 0, .int 0, .ref h44, .ref h45, .ref h46, .int 0, .ref h47, .ref h48, .ref h49, .ref h50, .ref h51, .ref h52, .ref h53, .int 0, .ref h54, .int 0, .ref h55, .ref h56, .ref h57, .int 0, .ref h58, .ref h59, .ref h60, .ref h61, .int 0, .ref h62, .ref h63, .ref h64, .ref h65, .int 0, .int 0, .int 0, .int 0, .int 0, .int 0, .int 0, .int 0, .int 0, .ref h66, .int 0, .ref h67, .int 0, .int 0, .int 0, .int 0, .int 0, .ref h68, .int 0, .int 0, .ref h69, .int 0, .ref h70, .int 0, .ref h71, .ref h72, .int 0, .ref h73, .ref h74, .ref h75, .ref h76, .long 0, .int 0, .ref h77, .ref h78, .ref h79, .ref h80, .ref h81, .ref h82, .ref h83, .ref h84, .ref h85, .ref h86, .ref h87, .ref h88, .ref h89, .ref h90, .ref h91, .int 0, .ref h92, .ref h93, .ref h94, .int 0])), (h48, .inl (k0, 4, .inl (fun _ => 0))), (h49, .inl (k1, 4, .inl (fun _ => 0))), (h50, .inl (k2, 400, .inl (upd (fun _ => 0) 300 (((w0 >>> ((16 : Int32).toInt64 &&& 63)) &&& 65535).toInt32))))] H_181 := hP_181
          have hD_181 : va_D A [(h0, .inr (15, [.int 0, .int 0, .ref h1, .int 0, .int (-1), .ref h2, .ref h3, .ref h4, .ref h5, .ref h6, .ref h7, .ref h8, .ref h9, .ref h10, .ref h11, .ref h12, .ref h13, .ref h14, .ref h15, .ref h16, .ref h17, .ref h18, .ref h19, .ref h20, .ref h21, .ref h22, .ref h23, .ref h24, .ref h25, .ref h26, .ref h27, .int 0, .ref h28, .ref h29, .int 0, .int 0, .int 0, .int 0, .int 0, .int 0, .ref h30, .int 0, .ref h31, .ref h32, .ref h33, .ref h34, .ref h35, .ref h36, .ref h37, .ref h38, .int 0, .int 0, .int 0, .int 0, .ref h39, .ref h40, .ref h41, .int 0, .ref h42, .int 0, .ref h43, .int 0, .int 0, .ref h44, .ref h45, .ref h46, .int 0, .ref h47, .ref h48, .ref h49, .ref h50, .ref h51, .ref h52, .ref h53, .int 0, .ref h54, .int 0, .ref h55, .ref h56, .ref h57, .int 0, .ref h58, .ref h59, .ref h60, .ref h61, .int 0, .ref h62, .ref h63, .ref h64, .ref h65, .int 0, .int 0, .int 0, .int 0, .int 0, .int 0, .int 0, .int 0, .int 0, .ref h66, .int 0, .ref h67, .int 0, .int 0, .int 0, .int 0, .int 0, .ref h68, .int 0, .int 0, .ref h69, .int 0, .ref h70, .int 0, .ref h71, .ref h72, .int 0, .ref h73, .ref h74, .ref h75, .ref h76, .long 0, .int 0, .ref h77, .ref h78, .ref h79, .ref h80, .ref h81, .ref h82, .ref h83, .ref h84, .ref h85, .ref h86, .ref h87, .ref h88, .ref h89, .ref h90, .ref h91, .int 0, .ref h92, .ref h93, .ref h94, .int 0])), (h48, .inl (k0, 4, .inl (fun _ => 0))), (h49, .inl (k1, 4, .inl (fun _ => 0))), (h50, .inl (k2, 400, .inl (upd (fun _ => 0) 300 (((w0 >>> ((16 : Int32).toInt64 &&& 63)) &&& 65535).toInt32))))] := hD_181
          clear hP_3 hD_3 hS_3
          refine lv_iinc (v := 1) (lv' := [(6, .int 1), (5, .int 0), (0, .ref h0), (1, .int 3), (2, .int 2), (3, .long w0)]) hx hb dX12_put__102 hl_174 (k := 0) rfl (by decide) (by decide) rfl (fun ls_182 hl_182 => ?_)
          clear hl_174
          refine lv_goto (tgt := 65) hx hb dX12_put__105 (by decide) ?_
          refine lv_iload hx hb dX12_put__65 (lv_at hl_182 0 rfl) ?_
          refine lv_iload_n hx hb dX12_put__67 rfl (lv_at hl_182 4 rfl) ?_
          refine lv_icmp_ge (tgt := 108) hx hb dX12_put__68 (by decide) (fun c_ => absurd c_ (by decide)) (fun _ => ?_)
          refine lv_aload_n hx hb dX12_put__71 rfl (lv_at hl_182 2 rfl) ?_
          refine va_get (D := (dC, dI)) (ci := 15) (v := .ref h50) (C := RX12) (T := TX12) (N := 143) hx hb ht inX12 hown hK_3 hP_181 0 rfl rfl 70 (by decide) (ht _ tw_2210) (fun _ h9 => h9) rfl dX12_put__72 ?_
          refine lv_bipush (v := 100) hx hb dX12_put__75 (by decide) ?_
          refine lv_iload_n hx hb dX12_put__77 rfl (lv_at hl_182 3 rfl) ?_
          refine lv_imul hx hb dX12_put__78 ?_
          refine lv_topi (fun x_183 ex_183 => ?_)
          obtain rfl : x_183 = 300 := ex_183.trans (by decide)
          refine lv_iload hx hb dX12_put__79 (lv_at hl_182 1 rfl) ?_
          refine lv_iadd hx hb dX12_put__81 ?_
          refine lv_topi (fun x_184 ex_184 => ?_)
          obtain rfl : x_184 = 300 := ex_184.trans (by decide)
          refine lv_iload hx hb dX12_put__82 (lv_at hl_182 0 rfl) ?_
          refine lv_iadd hx hb dX12_put__84 ?_
          refine lv_topi (fun x_185 ex_185 => ?_)
          obtain rfl : x_185 = 301 := ex_185.trans (by decide)
          refine lv_lload_n hx hb dX12_put__85 rfl (lv_at hl_182 5 rfl) ?_
          refine lv_bipush (v := 16) hx hb dX12_put__86 (by decide) ?_
          refine lv_iload_n hx hb dX12_put__88 rfl (lv_at hl_182 4 rfl) ?_
          refine lv_iconst (v := 1) hx hb dX12_put__89 (by decide) ?_
          refine lv_isub hx hb dX12_put__90 ?_
          refine lv_topi (fun x_186 ex_186 => ?_)
          obtain rfl : x_186 = 1 := ex_186.trans (by decide)
          refine lv_iload hx hb dX12_put__91 (lv_at hl_182 0 rfl) ?_
          refine lv_isub hx hb dX12_put__93 ?_
          refine lv_topi (fun x_187 ex_187 => ?_)
          obtain rfl : x_187 = 0 := ex_187.trans (by decide)
          refine lv_imul hx hb dX12_put__94 ?_
          refine lv_topi (fun x_188 ex_188 => ?_)
          obtain rfl : x_188 = 0 := ex_188.trans (by decide)
          refine lv_lshr (v := (w0 >>> ((0 : Int32).toInt64 &&& 63))) hx hb dX12_put__95 rfl ?_
          refine lv_ldc2 hx hb hown (ht _ tw_2813) dX12_put__96 ?_
          refine lv_land hx hb dX12_put__99 ?_
          refine lv_l2i (v := ((w0 >>> ((0 : Int32).toInt64 &&& 63)) &&& 65535).toInt32) hx hb dX12_put__100 rfl ?_
          refine va_iast hx hb hK_3 hP_181 hD_181 hS_181 3 2 rfl rfl (i := 301) (vpi (by decide)) dX12_put__101 (fun H_189 locs_189 hP_189 hD_189 hS_189 => ?_)
          have hP_189 : va_P (dC, dI) vwCl [(h0, .inr (15, [.int 0, .int 0, .ref h1, .int 0, .int (-1), .ref h2, .ref h3, .ref h4, .ref h5, .ref h6, .ref h7, .ref h8, .ref h9, .ref h10, .ref h11, .ref h12, .ref h13, .ref h14, .ref h15, .ref h16, .ref h17, .ref h18, .ref h19, .ref h20, .ref h21, .ref h22, .ref h23, .ref h24, .ref h25, .ref h26, .ref h27, .int 0, .ref h28, .ref h29, .int 0, .int 0, .int 0, .int 0, .int 0, .int 0, .ref h30, .int 0, .ref h31, .ref h32, .ref h33, .ref h34, .ref h35, .ref h36, .ref h37, .ref h38, .int 0, .int 0, .int 0, .int 0, .ref h39, .ref h40, .ref h41, .int 0, .ref h42, .int 0, .ref h43, .int 0, .int 0, .ref h44, .ref h45, .ref h46, .int 0, .ref h47, .ref h48, .ref h49, .ref h50, .ref h51, .ref h52, .ref h53, .int 0, .ref h54, .int 0, .ref h55, .ref h56, .ref h57, .int 0, .ref h58, .ref h59, .ref h60, .ref h61, .int 0, .ref h62, .ref h63, .ref h64, .ref h65, .int 0, .int 0, .int 0, .int 0, .int 0, .int 0, .int 0, .int 0, .int 0, .ref h66, .int 0, .ref h67, .int 0, .int 0, .int 0, .int 0, .int 0, .ref h68, .int 0, .int 0, .ref h69, .int 0, .ref h70, .int 0, .ref h71, .ref h72, .int 0, .ref h73, .ref h74, .ref h75, .ref h76, .long 0, .int 0, .ref h77, .ref h78, .ref h79, .ref h80, .ref h81, .ref h82, .ref h83, .ref h84, .ref h85, .ref h86, .ref h87, .ref h88, .ref h89, .ref h90, .ref h91, .int 0, .ref h92, .ref h93, .ref h94, .int 0])), (h48, .inl (k0, 4, .inl (fun _ => 0))), (h49, .inl (k1, 4, .inl (fun _ => 0))), (h50, .inl (k2, 400, .inl (upd (upd (fun _ => 0) 300 (((w0 >>> ((16 : Int32).toInt64 &&& 63)) &&& 65535).toInt32)) 301 (((w0 >>> ((0 : Int32).toInt64 &&& 63)) &&& 65535).toInt32))))] H_189 := hP_189
          have hD_189 : va_D A [(h0, .inr (15, [.int 0, .int 0, .ref h1, .int 0, .int (-1), .ref h2, .ref h3, .ref h4, .ref h5, .ref h6, .ref h7, .ref h8, .ref h9, .ref h10, .ref h11, .ref h12, .ref h13, .ref h14, .ref h15, .ref h16, .ref h17, .ref h18, .ref h19, .ref h20, .ref h21, .ref h22, .ref h23, .ref h24, .ref h25, .ref h26, .ref h27, .int 0, .ref h28, .ref h29, .int 0, .int 0, .int 0, .int 0, .int 0, .int 0, .ref h30, .int 0, .ref h31, .ref h32, .ref h33, .ref h34, .ref h35, .ref h36, .ref h37, .ref h38, .int 0, .int 0, .int 0, .int 0, .ref h39, .ref h40, .ref h41, .int 0, .ref h42, .int 0, .ref h43, .int 0, .int 0, .ref h44, .ref h45, .ref h46, .int 0, .ref h47, .ref h48, .ref h49, .ref h50, .ref h51, .ref h52, .ref h53, .int 0, .ref h54, .int 0, .ref h55, .ref h56, .ref h57, .int 0, .ref h58, .ref h59, .ref h60, .ref h61, .int 0, .ref h62, .ref h63, .ref h64, .ref h65, .int 0, .int 0, .int 0, .int 0, .int 0, .int 0, .int 0, .int 0, .int 0, .ref h66, .int 0, .ref h67, .int 0, .int 0, .int 0, .int 0, .int 0, .ref h68, .int 0, .int 0, .ref h69, .int 0, .ref h70, .int 0, .ref h71, .ref h72, .int 0, .ref h73, .ref h74, .ref h75, .ref h76, .long 0, .int 0, .ref h77, .ref h78, .ref h79, .ref h80, .ref h81, .ref h82, .ref h83, .ref h84, .ref h85, .ref h86, .ref h87, .ref h88, .ref h89, .ref h90, .ref h91, .int 0, .ref h92, .ref h93, .ref h94, .int 0])), (h48, .inl (k0, 4, .inl (fun _ => 0))), (h49, .inl (k1, 4, .inl (fun _ => 0))), (h50, .inl (k2, 400, .inl (upd (upd (fun _ => 0) 300 (((w0 >>> ((16 : Int32).toInt64 &&& 63)) &&& 65535).toInt32)) 301 (((w0 >>> ((0 : Int32).toInt64 &&& 63)) &&& 65535).toInt32))))] := hD_189
          clear hP_181 hD_181 hS_181
          refine lv_iinc (v := 2) (lv' := [(6, .int 2), (5, .int 0), (0, .ref h0), (1, .int 3), (2, .int 2), (3, .long w0)]) hx hb dX12_put__102 hl_182 (k := 0) rfl (by decide) (by decide) rfl (fun ls_190 hl_190 => ?_)
          clear hl_182
          refine lv_goto (tgt := 65) hx hb dX12_put__105 (by decide) ?_
          refine lv_iload hx hb dX12_put__65 (lv_at hl_190 0 rfl) ?_
          refine lv_iload_n hx hb dX12_put__67 rfl (lv_at hl_190 4 rfl) ?_
          refine lv_icmp_ge (tgt := 108) hx hb dX12_put__68 (by decide) (fun _ => ?_) (fun c_ => absurd (by decide) c_)
          refine lv_aload_n hx hb dX12_put__108 rfl (lv_at hl_190 2 rfl) ?_
          refine va_get (D := (dC, dI)) (ci := 15) (v := .ref h48) (C := RX12) (T := TX12) (N := 143) hx hb ht inX12 hown hK_3 hP_189 0 rfl rfl 68 (by decide) (ht _ tw_2208) (fun _ h9 => h9) rfl dX12_put__109 ?_
          refine lv_iload_n hx hb dX12_put__112 rfl (lv_at hl_190 3 rfl) ?_
          refine lv_iconst (v := 1) hx hb dX12_put__113 (by decide) ?_
          refine va_zast hx hb hK_3 hP_189 hD_189 hS_189 1 0 rfl rfl (i := 3) (vpi (by decide)) dX12_put__114 (fun H_191 locs_191 hP_191 hD_191 hS_191 => ?_)
          have hP_191 : va_P (dC, dI) vwCl [(h0, .inr (15, [.int 0, .int 0, .ref h1, .int 0, .int (-1), .ref h2, .ref h3, .ref h4, .ref h5, .ref h6, .ref h7, .ref h8, .ref h9, .ref h10, .ref h11, .ref h12, .ref h13, .ref h14, .ref h15, .ref h16, .ref h17, .ref h18, .ref h19, .ref h20, .ref h21, .ref h22, .ref h23, .ref h24, .ref h25, .ref h26, .ref h27, .int 0, .ref h28, .ref h29, .int 0, .int 0, .int 0, .int 0, .int 0, .int 0, .ref h30, .int 0, .ref h31, .ref h32, .ref h33, .ref h34, .ref h35, .ref h36, .ref h37, .ref h38, .int 0, .int 0, .int 0, .int 0, .ref h39, .ref h40, .ref h41, .int 0, .ref h42, .int 0, .ref h43, .int 0, .int 0, .ref h44, .ref h45, .ref h46, .int 0, .ref h47, .ref h48, .ref h49, .ref h50, .ref h51, .ref h52, .ref h53, .int 0, .ref h54, .int 0, .ref h55, .ref h56, .ref h57, .int 0, .ref h58, .ref h59, .ref h60, .ref h61, .int 0, .ref h62, .ref h63, .ref h64, .ref h65, .int 0, .int 0, .int 0, .int 0, .int 0, .int 0, .int 0, .int 0, .int 0, .ref h66, .int 0, .ref h67, .int 0, .int 0, .int 0, .int 0, .int 0, .ref h68, .int 0, .int 0, .ref h69, .int 0, .ref h70, .int 0, .ref h71, .ref h72, .int 0, .ref h73, .ref h74, .ref h75, .ref h76, .long 0, .int 0, .ref h77, .ref h78, .ref h79, .ref h80, .ref h81, .ref h82, .ref h83, .ref h84, .ref h85, .ref h86, .ref h87, .ref h88, .ref h89, .ref h90, .ref h91, .int 0, .ref h92, .ref h93, .ref h94, .int 0])), (h48, .inl (k0, 4, .inl (upd (fun _ => 0) 3 1))), (h49, .inl (k1, 4, .inl (fun _ => 0))), (h50, .inl (k2, 400, .inl (upd (upd (fun _ => 0) 300 (((w0 >>> ((16 : Int32).toInt64 &&& 63)) &&& 65535).toInt32)) 301 (((w0 >>> ((0 : Int32).toInt64 &&& 63)) &&& 65535).toInt32))))] H_191 := hP_191
          have hD_191 : va_D A [(h0, .inr (15, [.int 0, .int 0, .ref h1, .int 0, .int (-1), .ref h2, .ref h3, .ref h4, .ref h5, .ref h6, .ref h7, .ref h8, .ref h9, .ref h10, .ref h11, .ref h12, .ref h13, .ref h14, .ref h15, .ref h16, .ref h17, .ref h18, .ref h19, .ref h20, .ref h21, .ref h22, .ref h23, .ref h24, .ref h25, .ref h26, .ref h27, .int 0, .ref h28, .ref h29, .int 0, .int 0, .int 0, .int 0, .int 0, .int 0, .ref h30, .int 0, .ref h31, .ref h32, .ref h33, .ref h34, .ref h35, .ref h36, .ref h37, .ref h38, .int 0, .int 0, .int 0, .int 0, .ref h39, .ref h40, .ref h41, .int 0, .ref h42, .int 0, .ref h43, .int 0, .int 0, .ref h44, .ref h45, .ref h46, .int 0, .ref h47, .ref h48, .ref h49, .ref h50, .ref h51, .ref h52, .ref h53, .int 0, .ref h54, .int 0, .ref h55, .ref h56, .ref h57, .int 0, .ref h58, .ref h59, .ref h60, .ref h61, .int 0, .ref h62, .ref h63, .ref h64, .ref h65, .int 0, .int 0, .int 0, .int 0, .int 0, .int 0, .int 0, .int 0, .int 0, .ref h66, .int 0, .ref h67, .int 0, .int 0, .int 0, .int 0, .int 0, .ref h68, .int 0, .int 0, .ref h69, .int 0, .ref h70, .int 0, .ref h71, .ref h72, .int 0, .ref h73, .ref h74, .ref h75, .ref h76, .long 0, .int 0, .ref h77, .ref h78, .ref h79, .ref h80, .ref h81, .ref h82, .ref h83, .ref h84, .ref h85, .ref h86, .ref h87, .ref h88, .ref h89, .ref h90, .ref h91, .int 0, .ref h92, .ref h93, .ref h94, .int 0])), (h48, .inl (k0, 4, .inl (upd (fun _ => 0) 3 1))), (h49, .inl (k1, 4, .inl (fun _ => 0))), (h50, .inl (k2, 400, .inl (upd (upd (fun _ => 0) 300 (((w0 >>> ((16 : Int32).toInt64 &&& 63)) &&& 65535).toInt32)) 301 (((w0 >>> ((0 : Int32).toInt64 &&& 63)) &&& 65535).toInt32))))] := hD_191
          clear hP_189 hD_189 hS_189
          refine lv_aload_n hx hb dX12_put__115 rfl (lv_at hl_190 2 rfl) ?_
          refine va_get (D := (dC, dI)) (ci := 15) (v := .ref h49) (C := RX12) (T := TX12) (N := 143) hx hb ht inX12 hown hK_3 hP_191 0 rfl rfl 69 (by decide) (ht _ tw_2209) (fun _ h9 => h9) rfl dX12_put__116 ?_
          refine lv_iload_n hx hb dX12_put__119 rfl (lv_at hl_190 3 rfl) ?_
          refine lv_iload hx hb dX12_put__120 (lv_at hl_190 1 rfl) ?_
          refine lv_iload_n hx hb dX12_put__122 rfl (lv_at hl_190 4 rfl) ?_
          refine lv_iadd hx hb dX12_put__123 ?_
          refine lv_topi (fun x_192 ex_192 => ?_)
          obtain rfl : x_192 = 2 := ex_192.trans (by decide)
          refine va_iast hx hb hK_3 hP_191 hD_191 hS_191 2 1 rfl rfl (i := 3) (vpi (by decide)) dX12_put__124 (fun H_193 locs_193 hP_193 hD_193 hS_193 => ?_)
          have hP_193 : va_P (dC, dI) vwCl [(h0, .inr (15, [.int 0, .int 0, .ref h1, .int 0, .int (-1), .ref h2, .ref h3, .ref h4, .ref h5, .ref h6, .ref h7, .ref h8, .ref h9, .ref h10, .ref h11, .ref h12, .ref h13, .ref h14, .ref h15, .ref h16, .ref h17, .ref h18, .ref h19, .ref h20, .ref h21, .ref h22, .ref h23, .ref h24, .ref h25, .ref h26, .ref h27, .int 0, .ref h28, .ref h29, .int 0, .int 0, .int 0, .int 0, .int 0, .int 0, .ref h30, .int 0, .ref h31, .ref h32, .ref h33, .ref h34, .ref h35, .ref h36, .ref h37, .ref h38, .int 0, .int 0, .int 0, .int 0, .ref h39, .ref h40, .ref h41, .int 0, .ref h42, .int 0, .ref h43, .int 0, .int 0, .ref h44, .ref h45, .ref h46, .int 0, .ref h47, .ref h48, .ref h49, .ref h50, .ref h51, .ref h52, .ref h53, .int 0, .ref h54, .int 0, .ref h55, .ref h56, .ref h57, .int 0, .ref h58, .ref h59, .ref h60, .ref h61, .int 0, .ref h62, .ref h63, .ref h64, .ref h65, .int 0, .int 0, .int 0, .int 0, .int 0, .int 0, .int 0, .int 0, .int 0, .ref h66, .int 0, .ref h67, .int 0, .int 0, .int 0, .int 0, .int 0, .ref h68, .int 0, .int 0, .ref h69, .int 0, .ref h70, .int 0, .ref h71, .ref h72, .int 0, .ref h73, .ref h74, .ref h75, .ref h76, .long 0, .int 0, .ref h77, .ref h78, .ref h79, .ref h80, .ref h81, .ref h82, .ref h83, .ref h84, .ref h85, .ref h86, .ref h87, .ref h88, .ref h89, .ref h90, .ref h91, .int 0, .ref h92, .ref h93, .ref h94, .int 0])), (h48, .inl (k0, 4, .inl (upd (fun _ => 0) 3 1))), (h49, .inl (k1, 4, .inl (upd (fun _ => 0) 3 2))), (h50, .inl (k2, 400, .inl (upd (upd (fun _ => 0) 300 (((w0 >>> ((16 : Int32).toInt64 &&& 63)) &&& 65535).toInt32)) 301 (((w0 >>> ((0 : Int32).toInt64 &&& 63)) &&& 65535).toInt32))))] H_193 := hP_193
          have hD_193 : va_D A [(h0, .inr (15, [.int 0, .int 0, .ref h1, .int 0, .int (-1), .ref h2, .ref h3, .ref h4, .ref h5, .ref h6, .ref h7, .ref h8, .ref h9, .ref h10, .ref h11, .ref h12, .ref h13, .ref h14, .ref h15, .ref h16, .ref h17, .ref h18, .ref h19, .ref h20, .ref h21, .ref h22, .ref h23, .ref h24, .ref h25, .ref h26, .ref h27, .int 0, .ref h28, .ref h29, .int 0, .int 0, .int 0, .int 0, .int 0, .int 0, .ref h30, .int 0, .ref h31, .ref h32, .ref h33, .ref h34, .ref h35, .ref h36, .ref h37, .ref h38, .int 0, .int 0, .int 0, .int 0, .ref h39, .ref h40, .ref h41, .int 0, .ref h42, .int 0, .ref h43, .int 0, .int 0, .ref h44, .ref h45, .ref h46, .int 0, .ref h47, .ref h48, .ref h49, .ref h50, .ref h51, .ref h52, .ref h53, .int 0, .ref h54, .int 0, .ref h55, .ref h56, .ref h57, .int 0, .ref h58, .ref h59, .ref h60, .ref h61, .int 0, .ref h62, .ref h63, .ref h64, .ref h65, .int 0, .int 0, .int 0, .int 0, .int 0, .int 0, .int 0, .int 0, .int 0, .ref h66, .int 0, .ref h67, .int 0, .int 0, .int 0, .int 0, .int 0, .ref h68, .int 0, .int 0, .ref h69, .int 0, .ref h70, .int 0, .ref h71, .ref h72, .int 0, .ref h73, .ref h74, .ref h75, .ref h76, .long 0, .int 0, .ref h77, .ref h78, .ref h79, .ref h80, .ref h81, .ref h82, .ref h83, .ref h84, .ref h85, .ref h86, .ref h87, .ref h88, .ref h89, .ref h90, .ref h91, .int 0, .ref h92, .ref h93, .ref h94, .int 0])), (h48, .inl (k0, 4, .inl (upd (fun _ => 0) 3 1))), (h49, .inl (k1, 4, .inl (upd (fun _ => 0) 3 2))), (h50, .inl (k2, 400, .inl (upd (upd (fun _ => 0) 300 (((w0 >>> ((16 : Int32).toInt64 &&& 63)) &&& 65535).toInt32)) 301 (((w0 >>> ((0 : Int32).toInt64 &&& 63)) &&& 65535).toInt32))))] := hD_193
          clear hP_191 hD_191 hS_191
          refine lv_aload_n hx hb dX12_put__125 rfl (lv_at hl_190 2 rfl) ?_
          refine lv_aload_n hx hb dX12_put__126 rfl (lv_at hl_190 2 rfl) ?_
          refine va_get (D := (dC, dI)) (ci := 15) (v := .int 0) (C := RX12) (T := TX12) (N := 143) hx hb ht inX12 hown hK_3 hP_193 0 rfl rfl 102 (by decide) (ht _ tw_2242) (fun _ h9 => h9) rfl dX12_put__127 ?_
          refine lv_if_eq (tgt := 145) hx hb dX12_put__130 (by decide) (fun _ => ?_) (fun c_ => absurd (by decide) c_)
          refine lv_iconst (v := 0) hx hb dX12_put__145 (by decide) ?_
          refine va_put (D := (dC, dI)) (ci := 15) (v := .int 0) (ty := .boolean) (C := RX12) (T := TX12) (N := 143) hx hb ht inX12 tyX12 tyX12_ok nmX12 hown hK_3 hP_193 hD_193 hS_193 0 rfl rfl 102 (by decide) (ht _ tw_2242) (fun _ h9 => h9) rfl (by decide +kernel) rfl rfl (Nat.le_of_ble_eq_true rfl) dX12_put__146 (fun H_194 locs_194 hP_194 hD_194 hS_194 => ?_)
          have hP_194 : va_P (dC, dI) vwCl [(h0, .inr (15, [.int 0, .int 0, .ref h1, .int 0, .int (-1), .ref h2, .ref h3, .ref h4, .ref h5, .ref h6, .ref h7, .ref h8, .ref h9, .ref h10, .ref h11, .ref h12, .ref h13, .ref h14, .ref h15, .ref h16, .ref h17, .ref h18, .ref h19, .ref h20, .ref h21, .ref h22, .ref h23, .ref h24, .ref h25, .ref h26, .ref h27, .int 0, .ref h28, .ref h29, .int 0, .int 0, .int 0, .int 0, .int 0, .int 0, .ref h30, .int 0, .ref h31, .ref h32, .ref h33, .ref h34, .ref h35, .ref h36, .ref h37, .ref h38, .int 0, .int 0, .int 0, .int 0, .ref h39, .ref h40, .ref h41, .int 0, .ref h42, .int 0, .ref h43, .int 0, .int 0, .ref h44, .ref h45, .ref h46, .int 0, .ref h47, .ref h48, .ref h49, .ref h50, .ref h51, .ref h52, .ref h53, .int 0, .ref h54, .int 0, .ref h55, .ref h56, .ref h57, .int 0, .ref h58, .ref h59, .ref h60, .ref h61, .int 0, .ref h62, .ref h63, .ref h64, .ref h65, .int 0, .int 0, .int 0, .int 0, .int 0, .int 0, .int 0, .int 0, .int 0, .ref h66, .int 0, .ref h67, .int 0, .int 0, .int 0, .int 0, .int 0, .ref h68, .int 0, .int 0, .ref h69, .int 0, .ref h70, .int 0, .ref h71, .ref h72, .int 0, .ref h73, .ref h74, .ref h75, .ref h76, .long 0, .int 0, .ref h77, .ref h78, .ref h79, .ref h80, .ref h81, .ref h82, .ref h83, .ref h84, .ref h85, .ref h86, .ref h87, .ref h88, .ref h89, .ref h90, .ref h91, .int 0, .ref h92, .ref h93, .ref h94, .int 0])), (h48, .inl (k0, 4, .inl (upd (fun _ => 0) 3 1))), (h49, .inl (k1, 4, .inl (upd (fun _ => 0) 3 2))), (h50, .inl (k2, 400, .inl (upd (upd (fun _ => 0) 300 (((w0 >>> ((16 : Int32).toInt64 &&& 63)) &&& 65535).toInt32)) 301 (((w0 >>> ((0 : Int32).toInt64 &&& 63)) &&& 65535).toInt32))))] H_194 := hP_194
          have hD_194 : va_D A [(h0, .inr (15, [.int 0, .int 0, .ref h1, .int 0, .int (-1), .ref h2, .ref h3, .ref h4, .ref h5, .ref h6, .ref h7, .ref h8, .ref h9, .ref h10, .ref h11, .ref h12, .ref h13, .ref h14, .ref h15, .ref h16, .ref h17, .ref h18, .ref h19, .ref h20, .ref h21, .ref h22, .ref h23, .ref h24, .ref h25, .ref h26, .ref h27, .int 0, .ref h28, .ref h29, .int 0, .int 0, .int 0, .int 0, .int 0, .int 0, .ref h30, .int 0, .ref h31, .ref h32, .ref h33, .ref h34, .ref h35, .ref h36, .ref h37, .ref h38, .int 0, .int 0, .int 0, .int 0, .ref h39, .ref h40, .ref h41, .int 0, .ref h42, .int 0, .ref h43, .int 0, .int 0, .ref h44, .ref h45, .ref h46, .int 0, .ref h47, .ref h48, .ref h49, .ref h50, .ref h51, .ref h52, .ref h53, .int 0, .ref h54, .int 0, .ref h55, .ref h56, .ref h57, .int 0, .ref h58, .ref h59, .ref h60, .ref h61, .int 0, .ref h62, .ref h63, .ref h64, .ref h65, .int 0, .int 0, .int 0, .int 0, .int 0, .int 0, .int 0, .int 0, .int 0, .ref h66, .int 0, .ref h67, .int 0, .int 0, .int 0, .int 0, .int 0, .ref h68, .int 0, .int 0, .ref h69, .int 0, .ref h70, .int 0, .ref h71, .ref h72, .int 0, .ref h73, .ref h74, .ref h75, .ref h76, .long 0, .int 0, .ref h77, .ref h78, .ref h79, .ref h80, .ref h81, .ref h82, .ref h83, .ref h84, .ref h85, .ref h86, .ref h87, .ref h88, .ref h89, .ref h90, .ref h91, .int 0, .ref h92, .ref h93, .ref h94, .int 0])), (h48, .inl (k0, 4, .inl (upd (fun _ => 0) 3 1))), (h49, .inl (k1, 4, .inl (upd (fun _ => 0) 3 2))), (h50, .inl (k2, 400, .inl (upd (upd (fun _ => 0) 300 (((w0 >>> ((16 : Int32).toInt64 &&& 63)) &&& 65535).toInt32)) 301 (((w0 >>> ((0 : Int32).toInt64 &&& 63)) &&& 65535).toInt32))))] := hD_194
          clear hP_193 hD_193 hS_193
          refine lv_iload hx hb dX12_put__149 (lv_at hl_190 1 rfl) ?_
          refine lv_iload_n hx hb dX12_put__151 rfl (lv_at hl_190 4 rfl) ?_
          refine lv_iadd hx hb dX12_put__152 ?_
          refine lv_topi (fun x_195 ex_195 => ?_)
          obtain rfl : x_195 = 2 := ex_195.trans (by decide)
          have hP9 := hP_194.sub (ws' := []) [] rfl
          have hD9 := hD_194.sub (ws' := []) [] (by decide) rfl
          have hK9 := hK_3.sub (tys' := []) [] rfl
          refine W.widen (k := 0) (n := 0) (by decide) (by decide) ?_
          exact W.iret (v := 2) hx hb hr (fun t9 ht9 hW9 => ⟨⟨2, 4, rfl, (Or.inr (Or.inr (Or.inr (Or.inr ⟨rfl, rfl, cc_2_0, cc_2_1, cc_3_0, cc_3_1⟩)))), ⟨by rw [ht9]; exact hP9, va_K.moved hW9.alike hK9, hD9⟩⟩, hS_194.F ht9⟩) hS_194.2.2 dX12_put__153
      · refine lv_aload_n hx hb dX12_put__29 rfl (lv_at hl 0 rfl) ?_
        refine va_get (D := (dC, dI)) (ci := 15) (v := .ref h48) (C := RX12) (T := TX12) (N := 143) hx hb ht inX12 hown hK_3 hP_3 0 rfl rfl 68 (by decide) (ht _ tw_2208) (fun _ h9 => h9) rfl dX12_put__30 ?_
        refine lv_iload_n hx hb dX12_put__33 rfl (lv_at hl 1 rfl) ?_
        rcases sp_4 cc_2_0 cc_2_1 with rfl | rfl | rfl | rfl
        · refine va_zald hx hb hK_3 hP_3 1 0 rfl rfl (i := 0) (vpi (by decide)) dX12_put__34 ?_
          refine W.eq (g2 := F0 m 35 ls [.int 0]) rfl ?_
          refine lv_if_eq (tgt := 47) hx hb dX12_put__35 (by decide) (fun _ => ?_) (fun c_ => absurd (by decide) c_)
          refine lv_iconst (v := 0) hx hb dX12_put__47 (by decide) ?_
          refine lv_istore (lv' := [(5, .int 0), (0, .ref h0), (1, .int 0), (2, .int 3), (3, .long w0)]) hx hb dX12_put__48 hl (by decide) rfl (fun ls_196 hl_196 => ?_)
          clear hl
          refine lv_iload hx hb dX12_put__50 (lv_at hl_196 0 rfl) ?_
          refine lv_iload_n hx hb dX12_put__52 rfl (lv_at hl_196 3 rfl) ?_
          refine lv_iadd hx hb dX12_put__53 ?_
          refine lv_topi (fun x_197 ex_197 => ?_)
          obtain rfl : x_197 = 3 := ex_197.trans (by decide)
          refine lv_bipush (v := 100) hx hb dX12_put__54 (by decide) ?_
          refine lv_icmp_le (tgt := 62) hx hb dX12_put__56 (by decide) (fun _ => ?_) (fun c_ => absurd (by decide) c_)
          refine lv_iconst (v := 0) hx hb dX12_put__62 (by decide) ?_
          refine lv_istore (lv' := [(6, .int 0), (5, .int 0), (0, .ref h0), (1, .int 0), (2, .int 3), (3, .long w0)]) hx hb dX12_put__63 hl_196 (by decide) rfl (fun ls_198 hl_198 => ?_)
          clear hl_196
          refine lv_iload hx hb dX12_put__65 (lv_at hl_198 0 rfl) ?_
          refine lv_iload_n hx hb dX12_put__67 rfl (lv_at hl_198 4 rfl) ?_
          refine lv_icmp_ge (tgt := 108) hx hb dX12_put__68 (by decide) (fun c_ => absurd c_ (by decide)) (fun _ => ?_)
          refine lv_aload_n hx hb dX12_put__71 rfl (lv_at hl_198 2 rfl) ?_
          refine va_get (D := (dC, dI)) (ci := 15) (v := .ref h50) (C := RX12) (T := TX12) (N := 143) hx hb ht inX12 hown hK_3 hP_3 0 rfl rfl 70 (by decide) (ht _ tw_2210) (fun _ h9 => h9) rfl dX12_put__72 ?_
          refine lv_bipush (v := 100) hx hb dX12_put__75 (by decide) ?_
          refine lv_iload_n hx hb dX12_put__77 rfl (lv_at hl_198 3 rfl) ?_
          refine lv_imul hx hb dX12_put__78 ?_
          refine lv_topi (fun x_199 ex_199 => ?_)
          obtain rfl : x_199 = 0 := ex_199.trans (by decide)
          refine lv_iload hx hb dX12_put__79 (lv_at hl_198 1 rfl) ?_
          refine lv_iadd hx hb dX12_put__81 ?_
          refine lv_topi (fun x_200 ex_200 => ?_)
          obtain rfl : x_200 = 0 := ex_200.trans (by decide)
          refine lv_iload hx hb dX12_put__82 (lv_at hl_198 0 rfl) ?_
          refine lv_iadd hx hb dX12_put__84 ?_
          refine lv_topi (fun x_201 ex_201 => ?_)
          obtain rfl : x_201 = 0 := ex_201.trans (by decide)
          refine lv_lload_n hx hb dX12_put__85 rfl (lv_at hl_198 5 rfl) ?_
          refine lv_bipush (v := 16) hx hb dX12_put__86 (by decide) ?_
          refine lv_iload_n hx hb dX12_put__88 rfl (lv_at hl_198 4 rfl) ?_
          refine lv_iconst (v := 1) hx hb dX12_put__89 (by decide) ?_
          refine lv_isub hx hb dX12_put__90 ?_
          refine lv_topi (fun x_202 ex_202 => ?_)
          obtain rfl : x_202 = 2 := ex_202.trans (by decide)
          refine lv_iload hx hb dX12_put__91 (lv_at hl_198 0 rfl) ?_
          refine lv_isub hx hb dX12_put__93 ?_
          refine lv_topi (fun x_203 ex_203 => ?_)
          obtain rfl : x_203 = 2 := ex_203.trans (by decide)
          refine lv_imul hx hb dX12_put__94 ?_
          refine lv_topi (fun x_204 ex_204 => ?_)
          obtain rfl : x_204 = 32 := ex_204.trans (by decide)
          refine lv_lshr (v := (w0 >>> ((32 : Int32).toInt64 &&& 63))) hx hb dX12_put__95 rfl ?_
          refine lv_ldc2 hx hb hown (ht _ tw_2813) dX12_put__96 ?_
          refine lv_land hx hb dX12_put__99 ?_
          refine lv_l2i (v := ((w0 >>> ((32 : Int32).toInt64 &&& 63)) &&& 65535).toInt32) hx hb dX12_put__100 rfl ?_
          refine va_iast hx hb hK_3 hP_3 hD_3 hS_3 3 2 rfl rfl (i := 0) (vpi (by decide)) dX12_put__101 (fun H_205 locs_205 hP_205 hD_205 hS_205 => ?_)
          have hP_205 : va_P (dC, dI) vwCl [(h0, .inr (15, [.int 0, .int 0, .ref h1, .int 0, .int (-1), .ref h2, .ref h3, .ref h4, .ref h5, .ref h6, .ref h7, .ref h8, .ref h9, .ref h10, .ref h11, .ref h12, .ref h13, .ref h14, .ref h15, .ref h16, .ref h17, .ref h18, .ref h19, .ref h20, .ref h21, .ref h22, .ref h23, .ref h24, .ref h25, .ref h26, .ref h27, .int 0, .ref h28, .ref h29, .int 0, .int 0, .int 0, .int 0, .int 0, .int 0, .ref h30, .int 0, .ref h31, .ref h32, .ref h33, .ref h34, .ref h35, .ref h36, .ref h37, .ref h38, .int 0, .int 0, .int 0, .int 0, .ref h39, .ref h40, .ref h41, .int 0, .ref h42, .int 0, .ref h43, .int 0, .int 0, .ref h44, .ref h45, .ref h46, .int 0, .ref h47, .ref h48, .ref h49, .ref h50, .ref h51, .ref h52, .ref h53, .int 0, .ref h54, .int 0, .ref h55, .ref h56, .ref h57, .int 0, .ref h58, .ref h59, .ref h60, .ref h61, .int 0, .ref h62, .ref h63, .ref h64, .ref h65, .int 0, .int 0, .int 0, .int 0, .int 0, .int 0, .int 0, .int 0, .int 0, .ref h66, .int 0, .ref h67, .int 0, .int 0, .int 0, .int 0, .int 0, .ref h68, .int 0, .int 0, .ref h69, .int 0, .ref h70, .int 0, .ref h71, .ref h72, .int 0, .ref h73, .ref h74, .ref h75, .ref h76, .long 0, .int 0, .ref h77, .ref h78, .ref h79, .ref h80, .ref h81, .ref h82, .ref h83, .ref h84, .ref h85, .ref h86, .ref h87, .ref h88, .ref h89, .ref h90, .ref h91, .int 0, .ref h92, .ref h93, .ref h94, .int 0])), (h48, .inl (k0, 4, .inl (fun _ => 0))), (h49, .inl (k1, 4, .inl (fun _ => 0))), (h50, .inl (k2, 400, .inl (upd (fun _ => 0) 0 (((w0 >>> ((32 : Int32).toInt64 &&& 63)) &&& 65535).toInt32))))] H_205 := hP_205
          have hD_205 : va_D A [(h0, .inr (15, [.int 0, .int 0, .ref h1, .int 0, .int (-1), .ref h2, .ref h3, .ref h4, .ref h5, .ref h6, .ref h7, .ref h8, .ref h9, .ref h10, .ref h11, .ref h12, .ref h13, .ref h14, .ref h15, .ref h16, .ref h17, .ref h18, .ref h19, .ref h20, .ref h21, .ref h22, .ref h23, .ref h24, .ref h25, .ref h26, .ref h27, .int 0, .ref h28, .ref h29, .int 0, .int 0, .int 0, .int 0, .int 0, .int 0, .ref h30, .int 0, .ref h31, .ref h32, .ref h33, .ref h34, .ref h35, .ref h36, .ref h37, .ref h38, .int 0, .int 0, .int 0, .int 0, .ref h39, .ref h40, .ref h41, .int 0, .ref h42, .int 0, .ref h43, .int 0, .int 0, .ref h44, .ref h45, .ref h46, .int 0, .ref h47, .ref h48, .ref h49, .ref h50, .ref h51, .ref h52, .ref h53, .int 0, .ref h54, .int 0, .ref h55, .ref h56, .ref h57, .int 0, .ref h58, .ref h59, .ref h60, .ref h61, .int 0, .ref h62, .ref h63, .ref h64, .ref h65, .int 0, .int 0, .int 0, .int 0, .int 0, .int 0, .int 0, .int 0, .int 0, .ref h66, .int 0, .ref h67, .int 0, .int 0, .int 0, .int 0, .int 0, .ref h68, .int 0, .int 0, .ref h69, .int 0, .ref h70, .int 0, .ref h71, .ref h72, .int 0, .ref h73, .ref h74, .ref h75, .ref h76, .long 0, .int 0, .ref h77, .ref h78, .ref h79, .ref h80, .ref h81, .ref h82, .ref h83, .ref h84, .ref h85, .ref h86, .ref h87, .ref h88, .ref h89, .ref h90, .ref h91, .int 0, .ref h92, .ref h93, .ref h94, .int 0])), (h48, .inl (k0, 4, .inl (fun _ => 0))), (h49, .inl (k1, 4, .inl (fun _ => 0))), (h50, .inl (k2, 400, .inl (upd (fun _ => 0) 0 (((w0 >>> ((32 : Int32).toInt64 &&& 63)) &&& 65535).toInt32))))] := hD_205
          clear hP_3 hD_3 hS_3
          refine lv_iinc (v := 1) (lv' := [(6, .int 1), (5, .int 0), (0, .ref h0), (1, .int 0), (2, .int 3), (3, .long w0)]) hx hb dX12_put__102 hl_198 (k := 0) rfl (by decide) (by decide) rfl (fun ls_206 hl_206 => ?_)
          clear hl_198
          refine lv_goto (tgt := 65) hx hb dX12_put__105 (by decide) ?_
          refine lv_iload hx hb dX12_put__65 (lv_at hl_206 0 rfl) ?_
          refine lv_iload_n hx hb dX12_put__67 rfl (lv_at hl_206 4 rfl) ?_
          refine lv_icmp_ge (tgt := 108) hx hb dX12_put__68 (by decide) (fun c_ => absurd c_ (by decide)) (fun _ => ?_)
          refine lv_aload_n hx hb dX12_put__71 rfl (lv_at hl_206 2 rfl) ?_
          refine va_get (D := (dC, dI)) (ci := 15) (v := .ref h50) (C := RX12) (T := TX12) (N := 143) hx hb ht inX12 hown hK_3 hP_205 0 rfl rfl 70 (by decide) (ht _ tw_2210) (fun _ h9 => h9) rfl dX12_put__72 ?_
          refine lv_bipush (v := 100) hx hb dX12_put__75 (by decide) ?_
          refine lv_iload_n hx hb dX12_put__77 rfl (lv_at hl_206 3 rfl) ?_
          refine lv_imul hx hb dX12_put__78 ?_
          refine lv_topi (fun x_207 ex_207 => ?_)
          obtain rfl : x_207 = 0 := ex_207.trans (by decide)
          refine lv_iload hx hb dX12_put__79 (lv_at hl_206 1 rfl) ?_
          refine lv_iadd hx hb dX12_put__81 ?_
          refine lv_topi (fun x_208 ex_208 => ?_)
          obtain rfl : x_208 = 0 := ex_208.trans (by decide)
          refine lv_iload hx hb dX12_put__82 (lv_at hl_206 0 rfl) ?_
          refine lv_iadd hx hb dX12_put__84 ?_
          refine lv_topi (fun x_209 ex_209 => ?_)
          obtain rfl : x_209 = 1 := ex_209.trans (by decide)
          refine lv_lload_n hx hb dX12_put__85 rfl (lv_at hl_206 5 rfl) ?_
          refine lv_bipush (v := 16) hx hb dX12_put__86 (by decide) ?_
          refine lv_iload_n hx hb dX12_put__88 rfl (lv_at hl_206 4 rfl) ?_
          refine lv_iconst (v := 1) hx hb dX12_put__89 (by decide) ?_
          refine lv_isub hx hb dX12_put__90 ?_
          refine lv_topi (fun x_210 ex_210 => ?_)
          obtain rfl : x_210 = 2 := ex_210.trans (by decide)
          refine lv_iload hx hb dX12_put__91 (lv_at hl_206 0 rfl) ?_
          refine lv_isub hx hb dX12_put__93 ?_
          refine lv_topi (fun x_211 ex_211 => ?_)
          obtain rfl : x_211 = 1 := ex_211.trans (by decide)
          refine lv_imul hx hb dX12_put__94 ?_
          refine lv_topi (fun x_212 ex_212 => ?_)
          obtain rfl : x_212 = 16 := ex_212.trans (by decide)
          refine lv_lshr (v := (w0 >>> ((16 : Int32).toInt64 &&& 63))) hx hb dX12_put__95 rfl ?_
          refine lv_ldc2 hx hb hown (ht _ tw_2813) dX12_put__96 ?_
          refine lv_land hx hb dX12_put__99 ?_
          refine lv_l2i (v := ((w0 >>> ((16 : Int32).toInt64 &&& 63)) &&& 65535).toInt32) hx hb dX12_put__100 rfl ?_
          refine va_iast hx hb hK_3 hP_205 hD_205 hS_205 3 2 rfl rfl (i := 1) (vpi (by decide)) dX12_put__101 (fun H_213 locs_213 hP_213 hD_213 hS_213 => ?_)
          have hP_213 : va_P (dC, dI) vwCl [(h0, .inr (15, [.int 0, .int 0, .ref h1, .int 0, .int (-1), .ref h2, .ref h3, .ref h4, .ref h5, .ref h6, .ref h7, .ref h8, .ref h9, .ref h10, .ref h11, .ref h12, .ref h13, .ref h14, .ref h15, .ref h16, .ref h17, .ref h18, .ref h19, .ref h20, .ref h21, .ref h22, .ref h23, .ref h24, .ref h25, .ref h26, .ref h27, .int 0, .ref h28, .ref h29, .int 0, .int 0, .int 0, .int 0, .int 0, .int 0, .ref h30, .int 0, .ref h31, .ref h32, .ref h33, .ref h34, .ref h35, .ref h36, .ref h37, .ref h38, .int 0, .int 0, .int 0, .int 0, .ref h39, .ref h40, .ref h41, .int 0, .ref h42, .int 0, .ref h43, .int 0, .int 0, .ref h44, .ref h45, .ref h46, .int 0, .ref h47, .ref h48, .ref h49, .ref h50, .ref h51, .ref h52, .ref h53, .int 0, .ref h54, .int 0, .ref h55, .ref h56, .ref h57, .int 0, .ref h58, .ref h59, .ref h60, .ref h61, .int 0, .ref h62, .ref h63, .ref h64, .ref h65, .int 0, .int 0, .int 0, .int 0, .int 0, .int 0, .int 0, .int 0, .int 0, .ref h66, .int 0, .ref h67, .int 0, .int 0, .int 0, .int 0, .int 0, .ref h68, .int 0, .int 0, .ref h69, .int 0, .ref h70, .int 0, .ref h71, .ref h72, .int 0, .ref h73, .ref h74, .ref h75, .ref h76, .long 0, .int 0, .ref h77, .ref h78, .ref h79, .ref h80, .ref h81, .ref h82, .ref h83, .ref h84, .ref h85, .ref h86, .ref h87, .ref h88, .ref h89, .ref h90, .ref h91, .int 0, .ref h92, .ref h93, .ref h94, .int 0])), (h48, .inl (k0, 4, .inl (fun _ => 0))), (h49, .inl (k1, 4, .inl (fun _ => 0))), (h50, .inl (k2, 400, .inl (upd (upd (fun _ => 0) 0 (((w0 >>> ((32 : Int32).toInt64 &&& 63)) &&& 65535).toInt32)) 1 (((w0 >>> ((16 : Int32).toInt64 &&& 63)) &&& 65535).toInt32))))] H_213 := hP_213
          have hD_213 : va_D A [(h0, .inr (15, [.int 0, .int 0, .ref h1, .int 0, .int (-1), .ref h2, .ref h3, .ref h4, .ref h5, .ref h6, .ref h7, .ref h8, .ref h9, .ref h10, .ref h11, .ref h12, .ref h13, .ref h14, .ref h15, .ref h16, .ref h17, .ref h18, .ref h19, .ref h20, .ref h21, .ref h22, .ref h23, .ref h24, .ref h25, .ref h26, .ref h27, .int 0, .ref h28, .ref h29, .int 0, .int 0, .int 0, .int 0, .int 0, .int 0, .ref h30, .int 0, .ref h31, .ref h32, .ref h33, .ref h34, .ref h35, .ref h36, .ref h37, .ref h38, .int 0, .int 0, .int 0, .int 0, .ref h39, .ref h40, .ref h41, .int 0, .ref h42, .int 0, .ref h43, .int 0, .int 0, .ref h44, .ref h45, .ref h46, .int 0, .ref h47, .ref h48, .ref h49, .ref h50, .ref h51, .ref h52, .ref h53, .int 0, .ref h54, .int 0, .ref h55, .ref h56, .ref h57, .int 0, .ref h58, .ref h59, .ref h60, .ref h61, .int 0, .ref h62, .ref h63, .ref h64, .ref h65, .int 0, .int 0, .int 0, .int 0, .int 0, .int 0, .int 0, .int 0, .int 0, .ref h66, .int 0, .ref h67, .int 0, .int 0, .int 0, .int 0, .int 0, .ref h68, .int 0, .int 0, .ref h69, .int 0, .ref h70, .int 0, .ref h71, .ref h72, .int 0, .ref h73, .ref h74, .ref h75, .ref h76, .long 0, .int 0, .ref h77, .ref h78, .ref h79, .ref h80, .ref h81, .ref h82, .ref h83, .ref h84, .ref h85, .ref h86, .ref h87, .ref h88, .ref h89, .ref h90, .ref h91, .int 0, .ref h92, .ref h93, .ref h94, .int 0])), (h48, .inl (k0, 4, .inl (fun _ => 0))), (h49, .inl (k1, 4, .inl (fun _ => 0))), (h50, .inl (k2, 400, .inl (upd (upd (fun _ => 0) 0 (((w0 >>> ((32 : Int32).toInt64 &&& 63)) &&& 65535).toInt32)) 1 (((w0 >>> ((16 : Int32).toInt64 &&& 63)) &&& 65535).toInt32))))] := hD_213
          clear hP_205 hD_205 hS_205
          refine lv_iinc (v := 2) (lv' := [(6, .int 2), (5, .int 0), (0, .ref h0), (1, .int 0), (2, .int 3), (3, .long w0)]) hx hb dX12_put__102 hl_206 (k := 0) rfl (by decide) (by decide) rfl (fun ls_214 hl_214 => ?_)
          clear hl_206
          refine lv_goto (tgt := 65) hx hb dX12_put__105 (by decide) ?_
          refine lv_iload hx hb dX12_put__65 (lv_at hl_214 0 rfl) ?_
          refine lv_iload_n hx hb dX12_put__67 rfl (lv_at hl_214 4 rfl) ?_
          refine lv_icmp_ge (tgt := 108) hx hb dX12_put__68 (by decide) (fun c_ => absurd c_ (by decide)) (fun _ => ?_)
          refine lv_aload_n hx hb dX12_put__71 rfl (lv_at hl_214 2 rfl) ?_
          refine va_get (D := (dC, dI)) (ci := 15) (v := .ref h50) (C := RX12) (T := TX12) (N := 143) hx hb ht inX12 hown hK_3 hP_213 0 rfl rfl 70 (by decide) (ht _ tw_2210) (fun _ h9 => h9) rfl dX12_put__72 ?_
          refine lv_bipush (v := 100) hx hb dX12_put__75 (by decide) ?_
          refine lv_iload_n hx hb dX12_put__77 rfl (lv_at hl_214 3 rfl) ?_
          refine lv_imul hx hb dX12_put__78 ?_
          refine lv_topi (fun x_215 ex_215 => ?_)
          obtain rfl : x_215 = 0 := ex_215.trans (by decide)
          refine lv_iload hx hb dX12_put__79 (lv_at hl_214 1 rfl) ?_
          refine lv_iadd hx hb dX12_put__81 ?_
          refine lv_topi (fun x_216 ex_216 => ?_)
          obtain rfl : x_216 = 0 := ex_216.trans (by decide)
          refine lv_iload hx hb dX12_put__82 (lv_at hl_214 0 rfl) ?_
          refine lv_iadd hx hb dX12_put__84 ?_
          refine lv_topi (fun x_217 ex_217 => ?_)
          obtain rfl : x_217 = 2 := ex_217.trans (by decide)
          refine lv_lload_n hx hb dX12_put__85 rfl (lv_at hl_214 5 rfl) ?_
          refine lv_bipush (v := 16) hx hb dX12_put__86 (by decide) ?_
          refine lv_iload_n hx hb dX12_put__88 rfl (lv_at hl_214 4 rfl) ?_
          refine lv_iconst (v := 1) hx hb dX12_put__89 (by decide) ?_
          refine lv_isub hx hb dX12_put__90 ?_
          refine lv_topi (fun x_218 ex_218 => ?_)
          obtain rfl : x_218 = 2 := ex_218.trans (by decide)
          refine lv_iload hx hb dX12_put__91 (lv_at hl_214 0 rfl) ?_
          refine lv_isub hx hb dX12_put__93 ?_
          refine lv_topi (fun x_219 ex_219 => ?_)
          obtain rfl : x_219 = 0 := ex_219.trans (by decide)
          refine lv_imul hx hb dX12_put__94 ?_
          refine lv_topi (fun x_220 ex_220 => ?_)
          obtain rfl : x_220 = 0 := ex_220.trans (by decide)
          refine lv_lshr (v := (w0 >>> ((0 : Int32).toInt64 &&& 63))) hx hb dX12_put__95 rfl ?_
          refine lv_ldc2 hx hb hown (ht _ tw_2813) dX12_put__96 ?_
          refine lv_land hx hb dX12_put__99 ?_
          refine lv_l2i (v := ((w0 >>> ((0 : Int32).toInt64 &&& 63)) &&& 65535).toInt32) hx hb dX12_put__100 rfl ?_
          refine va_iast hx hb hK_3 hP_213 hD_213 hS_213 3 2 rfl rfl (i := 2) (vpi (by decide)) dX12_put__101 (fun H_221 locs_221 hP_221 hD_221 hS_221 => ?_)
          have hP_221 : va_P (dC, dI) vwCl [(h0, .inr (15, [.int 0, .int 0, .ref h1, .int 0, .int (-1), .ref h2, .ref h3, .ref h4, .ref h5, .ref h6, .ref h7, .ref h8, .ref h9, .ref h10, .ref h11, .ref h12, .ref h13, .ref h14, .ref h15, .ref h16, .ref h17, .ref h18, .ref h19, .ref h20, .ref h21, .ref h22, .ref h23, .ref h24, .ref h25, .ref h26, .ref h27, .int 0, .ref h28, .ref h29, .int 0, .int 0, .int 0, .int 0, .int 0, .int 0, .ref h30, .int 0, .ref h31, .ref h32, .ref h33, .ref h34, .ref h35, .ref h36, .ref h37, .ref h38, .int 0, .int 0, .int 0, .int 0, .ref h39, .ref h40, .ref h41, .int 0, .ref h42, .int 0, .ref h43, .int 0, .int 0, .ref h44, .ref h45, .ref h46, .int 0, .ref h47, .ref h48, .ref h49, .ref h50, .ref h51, .ref h52, .ref h53, .int 0, .ref h54, .int 0, .ref h55, .ref h56, .ref h57, .int 0, .ref h58, .ref h59, .ref h60, .ref h61, .int 0, .ref h62, .ref h63, .ref h64, .ref h65, .int 0, .int 0, .int 0, .int 0, .int 0, .int 0, .int 0, .int 0, .int 0, .ref h66, .int 0, .ref h67, .int 0, .int 0, .int 0, .int 0, .int 0, .ref h68, .int 0, .int 0, .ref h69, .int 0, .ref h70, .int 0, .ref h71, .ref h72, .int 0, .ref h73, .ref h74, .ref h75, .ref h76, .long 0, .int 0, .ref h77, .ref h78, .ref h79, .ref h80, .ref h81, .ref h82, .ref h83, .ref h84, .ref h85, .ref h86, .ref h87, .ref h88, .ref h89, .ref h90, .ref h91, .int 0, .ref h92, .ref h93, .ref h94, .int 0])), (h48, .inl (k0, 4, .inl (fun _ => 0))), (h49, .inl (k1, 4, .inl (fun _ => 0))), (h50, .inl (k2, 400, .inl (upd (upd (upd (fun _ => 0) 0 (((w0 >>> ((32 : Int32).toInt64 &&& 63)) &&& 65535).toInt32)) 1 (((w0 >>> ((16 : Int32).toInt64 &&& 63)) &&& 65535).toInt32)) 2 (((w0 >>> ((0 : Int32).toInt64 &&& 63)) &&& 65535).toInt32))))] H_221 := hP_221
          have hD_221 : va_D A [(h0, .inr (15, [.int 0, .int 0, .ref h1, .int 0, .int (-1), .ref h2, .ref h3, .ref h4, .ref h5, .ref h6, .ref h7, .ref h8, .ref h9, .ref h10, .ref h11, .ref h12, .ref h13, .ref h14, .ref h15, .ref h16, .ref h17, .ref h18, .ref h19, .ref h20, .ref h21, .ref h22, .ref h23, .ref h24, .ref h25, .ref h26, .ref h27, .int 0, .ref h28, .ref h29, .int 0, .int 0, .int 0, .int 0, .int 0, .int 0, .ref h30, .int 0, .ref h31, .ref h32, .ref h33, .ref h34, .ref h35, .ref h36, .ref h37, .ref h38, .int 0, .int 0, .int 0, .int 0, .ref h39, .ref h40, .ref h41, .int 0, .ref h42, .int 0, .ref h43, .int 0, .int 0, .ref h44, .ref h45, .ref h46, .int 0, .ref h47, .ref h48, .ref h49, .ref h50, .ref h51, .ref h52, .ref h53, .int 0, .ref h54, .int 0, .ref h55, .ref h56, .ref h57, .int 0, .ref h58, .ref h59, .ref h60, .ref h61, .int 0, .ref h62, .ref h63, .ref h64, .ref h65, .int 0, .int 0, .int 0, .int 0, .int 0, .int 0, .int 0, .int 0, .int 0, .ref h66, .int 0, .ref h67, .int 0, .int 0, .int 0, .int 0, .int 0, .ref h68, .int 0, .int 0, .ref h69, .int 0, .ref h70, .int 0, .ref h71, .ref h72, .int 0, .ref h73, .ref h74, .ref h75, .ref h76, .long 0, .int 0, .ref h77, .ref h78, .ref h79, .ref h80, .ref h81, .ref h82, .ref h83, .ref h84, .ref h85, .ref h86, .ref h87, .ref h88, .ref h89, .ref h90, .ref h91, .int 0, .ref h92, .ref h93, .ref h94, .int 0])), (h48, .inl (k0, 4, .inl (fun _ => 0))), (h49, .inl (k1, 4, .inl (fun _ => 0))), (h50, .inl (k2, 400, .inl (upd (upd (upd (fun _ => 0) 0 (((w0 >>> ((32 : Int32).toInt64 &&& 63)) &&& 65535).toInt32)) 1 (((w0 >>> ((16 : Int32).toInt64 &&& 63)) &&& 65535).toInt32)) 2 (((w0 >>> ((0 : Int32).toInt64 &&& 63)) &&& 65535).toInt32))))] := hD_221
          clear hP_213 hD_213 hS_213
          refine lv_iinc (v := 3) (lv' := [(6, .int 3), (5, .int 0), (0, .ref h0), (1, .int 0), (2, .int 3), (3, .long w0)]) hx hb dX12_put__102 hl_214 (k := 0) rfl (by decide) (by decide) rfl (fun ls_222 hl_222 => ?_)
          clear hl_214
          refine lv_goto (tgt := 65) hx hb dX12_put__105 (by decide) ?_
          refine lv_iload hx hb dX12_put__65 (lv_at hl_222 0 rfl) ?_
          refine lv_iload_n hx hb dX12_put__67 rfl (lv_at hl_222 4 rfl) ?_
          refine lv_icmp_ge (tgt := 108) hx hb dX12_put__68 (by decide) (fun _ => ?_) (fun c_ => absurd (by decide) c_)
          refine lv_aload_n hx hb dX12_put__108 rfl (lv_at hl_222 2 rfl) ?_
          refine va_get (D := (dC, dI)) (ci := 15) (v := .ref h48) (C := RX12) (T := TX12) (N := 143) hx hb ht inX12 hown hK_3 hP_221 0 rfl rfl 68 (by decide) (ht _ tw_2208) (fun _ h9 => h9) rfl dX12_put__109 ?_
          refine lv_iload_n hx hb dX12_put__112 rfl (lv_at hl_222 3 rfl) ?_
          refine lv_iconst (v := 1) hx hb dX12_put__113 (by decide) ?_
          refine va_zast hx hb hK_3 hP_221 hD_221 hS_221 1 0 rfl rfl (i := 0) (vpi (by decide)) dX12_put__114 (fun H_223 locs_223 hP_223 hD_223 hS_223 => ?_)
          have hP_223 : va_P (dC, dI) vwCl [(h0, .inr (15, [.int 0, .int 0, .ref h1, .int 0, .int (-1), .ref h2, .ref h3, .ref h4, .ref h5, .ref h6, .ref h7, .ref h8, .ref h9, .ref h10, .ref h11, .ref h12, .ref h13, .ref h14, .ref h15, .ref h16, .ref h17, .ref h18, .ref h19, .ref h20, .ref h21, .ref h22, .ref h23, .ref h24, .ref h25, .ref h26, .ref h27, .int 0, .ref h28, .ref h29, .int 0, .int 0, .int 0, .int 0, .int 0, .int 0, .ref h30, .int 0, .ref h31, .ref h32, .ref h33, .ref h34, .ref h35, .ref h36, .ref h37, .ref h38, .int 0, .int 0, .int 0, .int 0, .ref h39, .ref h40, .ref h41, .int 0, .ref h42, .int 0, .ref h43, .int 0, .int 0, .ref h44, .ref h45, .ref h46, .int 0, .ref h47, .ref h48, .ref h49, .ref h50, .ref h51, .ref h52, .ref h53, .int 0, .ref h54, .int 0, .ref h55, .ref h56, .ref h57, .int 0, .ref h58, .ref h59, .ref h60, .ref h61, .int 0, .ref h62, .ref h63, .ref h64, .ref h65, .int 0, .int 0, .int 0, .int 0, .int 0, .int 0, .int 0, .int 0, .int 0, .ref h66, .int 0, .ref h67, .int 0, .int 0, .int 0, .int 0, .int 0, .ref h68, .int 0, .int 0, .ref h69, .int 0, .ref h70, .int 0, .ref h71, .ref h72, .int 0, .ref h73, .ref h74, .ref h75, .ref h76, .long 0, .int 0, .ref h77, .ref h78, .ref h79, .ref h80, .ref h81, .ref h82, .ref h83, .ref h84, .ref h85, .ref h86, .ref h87, .ref h88, .ref h89, .ref h90, .ref h91, .int 0, .ref h92, .ref h93, .ref h94, .int 0])), (h48, .inl (k0, 4, .inl (upd (fun _ => 0) 0 1))), (h49, .inl (k1, 4, .inl (fun _ => 0))), (h50, .inl (k2, 400, .inl (upd (upd (upd (fun _ => 0) 0 (((w0 >>> ((32 : Int32).toInt64 &&& 63)) &&& 65535).toInt32)) 1 (((w0 >>> ((16 : Int32).toInt64 &&& 63)) &&& 65535).toInt32)) 2 (((w0 >>> ((0 : Int32).toInt64 &&& 63)) &&& 65535).toInt32))))] H_223 := hP_223
          have hD_223 : va_D A [(h0, .inr (15, [.int 0, .int 0, .ref h1, .int 0, .int (-1), .ref h2, .ref h3, .ref h4, .ref h5, .ref h6, .ref h7, .ref h8, .ref h9, .ref h10, .ref h11, .ref h12, .ref h13, .ref h14, .ref h15, .ref h16, .ref h17, .ref h18, .ref h19, .ref h20, .ref h21, .ref h22, .ref h23, .ref h24, .ref h25, .ref h26, .ref h27, .int 0, .ref h28, .ref h29, .int 0, .int 0, .int 0, .int 0, .int 0, .int 0, .ref h30, .int 0, .ref h31, .ref h32, .ref h33, .ref h34, .ref h35, .ref h36, .ref h37, .ref h38, .int 0, .int 0, .int 0, .int 0, .ref h39, .ref h40, .ref h41, .int 0, .ref h42, .int 0, .ref h43, .int 0, .int 0, .ref h44, .ref h45, .ref h46, .int 0, .ref h47, .ref h48, .ref h49, .ref h50, .ref h51, .ref h52, .ref h53, .int 0, .ref h54, .int 0, .ref h55, .ref h56, .ref h57, .int 0, .ref h58, .ref h59, .ref h60, .ref h61, .int 0, .ref h62, .ref h63, .ref h64, .ref h65, .int 0, .int 0, .int 0, .int 0, .int 0, .int 0, .int 0, .int 0, .int 0, .ref h66, .int 0, .ref h67, .int 0, .int 0, .int 0, .int 0, .int 0, .ref h68, .int 0, .int 0, .ref h69, .int 0, .ref h70, .int 0, .ref h71, .ref h72, .int 0, .ref h73, .ref h74, .ref h75, .ref h76, .long 0, .int 0, .ref h77, .ref h78, .ref h79, .ref h80, .ref h81, .ref h82, .ref h83, .ref h84, .ref h85, .ref h86, .ref h87, .ref h88, .ref h89, .ref h90, .ref h91, .int 0, .ref h92, .ref h93, .ref h94, .int 0])), (h48, .inl (k0, 4, .inl (upd (fun _ => 0) 0 1))), (h49, .inl (k1, 4, .inl (fun _ => 0))), (h50, .inl (k2, 400, .inl (upd (upd (upd (fun _ => 0) 0 (((w0 >>> ((32 : Int32).toInt64 &&& 63)) &&& 65535).toInt32)) 1 (((w0 >>> ((16 : Int32).toInt64 &&& 63)) &&& 65535).toInt32)) 2 (((w0 >>> ((0 : Int32).toInt64 &&& 63)) &&& 65535).toInt32))))] := hD_223
          clear hP_221 hD_221 hS_221
          refine lv_aload_n hx hb dX12_put__115 rfl (lv_at hl_222 2 rfl) ?_
          refine va_get (D := (dC, dI)) (ci := 15) (v := .ref h49) (C := RX12) (T := TX12) (N := 143) hx hb ht inX12 hown hK_3 hP_223 0 rfl rfl 69 (by decide) (ht _ tw_2209) (fun _ h9 => h9) rfl dX12_put__116 ?_
          refine lv_iload_n hx hb dX12_put__119 rfl (lv_at hl_222 3 rfl) ?_
          refine lv_iload hx hb dX12_put__120 (lv_at hl_222 1 rfl) ?_
          refine lv_iload_n hx hb dX12_put__122 rfl (lv_at hl_222 4 rfl) ?_
          refine lv_iadd hx hb dX12_put__123 ?_
          refine lv_topi (fun x_224 ex_224 => ?_)
          obtain rfl : x_224 = 3 := ex_224.trans (by decide)
          refine va_iast hx hb hK_3 hP_223 hD_223 hS_223 2 1 rfl rfl (i := 0) (vpi (by decide)) dX12_put__124 (fun H_225 locs_225 hP_225 hD_225 hS_225 => ?_)
          have hP_225 : va_P (dC, dI) vwCl [(h0, .inr (15, [.int 0, .int 0, .ref h1, .int 0, .int (-1), .ref h2, .ref h3, .ref h4, .ref h5, .ref h6, .ref h7, .ref h8, .ref h9, .ref h10, .ref h11, .ref h12, .ref h13, .ref h14, .ref h15, .ref h16, .ref h17, .ref h18, .ref h19, .ref h20, .ref h21, .ref h22, .ref h23, .ref h24, .ref h25, .ref h26, .ref h27, .int 0, .ref h28, .ref h29, .int 0, .int 0, .int 0, .int 0, .int 0, .int 0, .ref h30, .int 0, .ref h31, .ref h32, .ref h33, .ref h34, .ref h35, .ref h36, .ref h37, .ref h38, .int 0, .int 0, .int 0, .int 0, .ref h39, .ref h40, .ref h41, .int 0, .ref h42, .int 0, .ref h43, .int 0, .int 0, .ref h44, .ref h45, .ref h46, .int 0, .ref h47, .ref h48, .ref h49, .ref h50, .ref h51, .ref h52, .ref h53, .int 0, .ref h54, .int 0, .ref h55, .ref h56, .ref h57, .int 0, .ref h58, .ref h59, .ref h60, .ref h61, .int 0, .ref h62, .ref h63, .ref h64, .ref h65, .int 0, .int 0, .int 0, .int 0, .int 0, .int 0, .int 0, .int 0, .int 0, .ref h66, .int 0, .ref h67, .int 0, .int 0, .int 0, .int 0, .int 0, .ref h68, .int 0, .int 0, .ref h69, .int 0, .ref h70, .int 0, .ref h71, .ref h72, .int 0, .ref h73, .ref h74, .ref h75, .ref h76, .long 0, .int 0, .ref h77, .ref h78, .ref h79, .ref h80, .ref h81, .ref h82, .ref h83, .ref h84, .ref h85, .ref h86, .ref h87, .ref h88, .ref h89, .ref h90, .ref h91, .int 0, .ref h92, .ref h93, .ref h94, .int 0])), (h48, .inl (k0, 4, .inl (upd (fun _ => 0) 0 1))), (h49, .inl (k1, 4, .inl (upd (fun _ => 0) 0 3))), (h50, .inl (k2, 400, .inl (upd (upd (upd (fun _ => 0) 0 (((w0 >>> ((32 : Int32).toInt64 &&& 63)) &&& 65535).toInt32)) 1 (((w0 >>> ((16 : Int32).toInt64 &&& 63)) &&& 65535).toInt32)) 2 (((w0 >>> ((0 : Int32).toInt64 &&& 63)) &&& 65535).toInt32))))] H_225 := hP_225
          have hD_225 : va_D A [(h0, .inr (15, [.int 0, .int 0, .ref h1, .int 0, .int (-1), .ref h2, .ref h3, .ref h4, .ref h5, .ref h6, .ref h7, .ref h8, .ref h9, .ref h10, .ref h11, .ref h12, .ref h13, .ref h14, .ref h15, .ref h16, .ref h17, .ref h18, .ref h19, .ref h20, .ref h21, .ref h22, .ref h23, .ref h24, .ref h25, .ref h26, .ref h27, .int 0, .ref h28, .ref h29, .int 0, .int 0, .int 0, .int 0, .int 0, .int 0, .ref h30, .int 0, .ref h31, .ref h32, .ref h33, .ref h34, .ref h35, .ref h36, .ref h37, .ref h38, .int 0, .int 0, .int 0, .int 0, .ref h39, .ref h40, .ref h41, .int 0, .ref h42, .int 0, .ref h43, .int 0, .int 0, .ref h44, .ref h45, .ref h46, .int 0, .ref h47, .ref h48, .ref h49, .ref h50, .ref h51, .ref h52, .ref h53, .int 0, .ref h54, .int 0, .ref h55, .ref h56, .ref h57, .int 0, .ref h58, .ref h59, .ref h60, .ref h61, .int 0, .ref h62, .ref h63, .ref h64, .ref h65, .int 0, .int 0, .int 0, .int 0, .int 0, .int 0, .int 0, .int 0, .int 0, .ref h66, .int 0, .ref h67, .int 0, .int 0, .int 0, .int 0, .int 0, .ref h68, .int 0, .int 0, .ref h69, .int 0, .ref h70, .int 0, .ref h71, .ref h72, .int 0, .ref h73, .ref h74, .ref h75, .ref h76, .long 0, .int 0, .ref h77, .ref h78, .ref h79, .ref h80, .ref h81, .ref h82, .ref h83, .ref h84, .ref h85, .ref h86, .ref h87, .ref h88, .ref h89, .ref h90, .ref h91, .int 0, .ref h92, .ref h93, .ref h94, .int 0])), (h48, .inl (k0, 4, .inl (upd (fun _ => 0) 0 1))), (h49, .inl (k1, 4, .inl (upd (fun _ => 0) 0 3))), (h50, .inl (k2, 400, .inl (upd (upd (upd (fun _ => 0) 0 (((w0 >>> ((32 : Int32).toInt64 &&& 63)) &&& 65535).toInt32)) 1 (((w0 >>> ((16 : Int32).toInt64 &&& 63)) &&& 65535).toInt32)) 2 (((w0 >>> ((0 : Int32).toInt64 &&& 63)) &&& 65535).toInt32))))] := hD_225
          clear hP_223 hD_223 hS_223
          refine lv_aload_n hx hb dX12_put__125 rfl (lv_at hl_222 2 rfl) ?_
          refine lv_aload_n hx hb dX12_put__126 rfl (lv_at hl_222 2 rfl) ?_
          refine va_get (D := (dC, dI)) (ci := 15) (v := .int 0) (C := RX12) (T := TX12) (N := 143) hx hb ht inX12 hown hK_3 hP_225 0 rfl rfl 102 (by decide) (ht _ tw_2242) (fun _ h9 => h9) rfl dX12_put__127 ?_
          refine lv_if_eq (tgt := 145) hx hb dX12_put__130 (by decide) (fun _ => ?_) (fun c_ => absurd (by decide) c_)
          refine lv_iconst (v := 0) hx hb dX12_put__145 (by decide) ?_
          refine va_put (D := (dC, dI)) (ci := 15) (v := .int 0) (ty := .boolean) (C := RX12) (T := TX12) (N := 143) hx hb ht inX12 tyX12 tyX12_ok nmX12 hown hK_3 hP_225 hD_225 hS_225 0 rfl rfl 102 (by decide) (ht _ tw_2242) (fun _ h9 => h9) rfl (by decide +kernel) rfl rfl (Nat.le_of_ble_eq_true rfl) dX12_put__146 (fun H_226 locs_226 hP_226 hD_226 hS_226 => ?_)
          have hP_226 : va_P (dC, dI) vwCl [(h0, .inr (15, [.int 0, .int 0, .ref h1, .int 0, .int (-1), .ref h2, .ref h3, .ref h4, .ref h5, .ref h6, .ref h7, .ref h8, .ref h9, .ref h10, .ref h11, .ref h12, .ref h13, .ref h14, .ref h15, .ref h16, .ref h17, .ref h18, .ref h19, .ref h20, .ref h21, .ref h22, .ref h23, .ref h24, .ref h25, .ref h26, .ref h27, .int 0, .ref h28, .ref h29, .int 0, .int 0, .int 0, .int 0, .int 0, .int 0, .ref h30, .int 0, .ref h31, .ref h32, .ref h33, .ref h34, .ref h35, .ref h36, .ref h37, .ref h38, .int 0, .int 0, .int 0, .int 0, .ref h39, .ref h40, .ref h41, .int 0, .ref h42, .int 0, .ref h43, .int 0, .int 0, .ref h44, .ref h45, .ref h46, .int 0, .ref h47, .ref h48, .ref h49, .ref h50, .ref h51, .ref h52, .ref h53, .int 0, .ref h54, .int 0, .ref h55, .ref h56, .ref h57, .int 0, .ref h58, .ref h59, .ref h60, .ref h61, .int 0, .ref h62, .ref h63, .ref h64, .ref h65, .int 0, .int 0, .int 0, .int 0, .int 0, .int 0, .int 0, .int 0, .int 0, .ref h66, .int 0, .ref h67, .int 0, .int 0, .int 0, .int 0, .int 0, .ref h68, .int 0, .int 0, .ref h69, .int 0, .ref h70, .int 0, .ref h71, .ref h72, .int 0, .ref h73, .ref h74, .ref h75, .ref h76, .long 0, .int 0, .ref h77, .ref h78, .ref h79, .ref h80, .ref h81, .ref h82, .ref h83, .ref h84, .ref h85, .ref h86, .ref h87, .ref h88, .ref h89, .ref h90, .ref h91, .int 0, .ref h92, .ref h93, .ref h94, .int 0])), (h48, .inl (k0, 4, .inl (upd (fun _ => 0) 0 1))), (h49, .inl (k1, 4, .inl (upd (fun _ => 0) 0 3))), (h50, .inl (k2, 400, .inl (upd (upd (upd (fun _ => 0) 0 (((w0 >>> ((32 : Int32).toInt64 &&& 63)) &&& 65535).toInt32)) 1 (((w0 >>> ((16 : Int32).toInt64 &&& 63)) &&& 65535).toInt32)) 2 (((w0 >>> ((0 : Int32).toInt64 &&& 63)) &&& 65535).toInt32))))] H_226 := hP_226
          have hD_226 : va_D A [(h0, .inr (15, [.int 0, .int 0, .ref h1, .int 0, .int (-1), .ref h2, .ref h3, .ref h4, .ref h5, .ref h6, .ref h7, .ref h8, .ref h9, .ref h10, .ref h11, .ref h12, .ref h13, .ref h14, .ref h15, .ref h16, .ref h17, .ref h18, .ref h19, .ref h20, .ref h21, .ref h22, .ref h23, .ref h24, .ref h25, .ref h26, .ref h27, .int 0, .ref h28, .ref h29, .int 0, .int 0, .int 0, .int 0, .int 0, .int 0, .ref h30, .int 0, .ref h31, .ref h32, .ref h33, .ref h34, .ref h35, .ref h36, .ref h37, .ref h38, .int 0, .int 0, .int 0, .int 0, .ref h39, .ref h40, .ref h41, .int 0, .ref h42, .int 0, .ref h43, .int 0, .int 0, .ref h44, .ref h45, .ref h46, .int 0, .ref h47, .ref h48, .ref h49, .ref h50, .ref h51, .ref h52, .ref h53, .int 0, .ref h54, .int 0, .ref h55, .ref h56, .ref h57, .int 0, .ref h58, .ref h59, .ref h60, .ref h61, .int 0, .ref h62, .ref h63, .ref h64, .ref h65, .int 0, .int 0, .int 0, .int 0, .int 0, .int 0, .int 0, .int 0, .int 0, .ref h66, .int 0, .ref h67, .int 0, .int 0, .int 0, .int 0, .int 0, .ref h68, .int 0, .int 0, .ref h69, .int 0, .ref h70, .int 0, .ref h71, .ref h72, .int 0, .ref h73, .ref h74, .ref h75, .ref h76, .long 0, .int 0, .ref h77, .ref h78, .ref h79, .ref h80, .ref h81, .ref h82, .ref h83, .ref h84, .ref h85, .ref h86, .ref h87, .ref h88, .ref h89, .ref h90, .ref h91, .int 0, .ref h92, .ref h93, .ref h94, .int 0])), (h48, .inl (k0, 4, .inl (upd (fun _ => 0) 0 1))), (h49, .inl (k1, 4, .inl (upd (fun _ => 0) 0 3))), (h50, .inl (k2, 400, .inl (upd (upd (upd (fun _ => 0) 0 (((w0 >>> ((32 : Int32).toInt64 &&& 63)) &&& 65535).toInt32)) 1 (((w0 >>> ((16 : Int32).toInt64 &&& 63)) &&& 65535).toInt32)) 2 (((w0 >>> ((0 : Int32).toInt64 &&& 63)) &&& 65535).toInt32))))] := hD_226
          clear hP_225 hD_225 hS_225
          refine lv_iload hx hb dX12_put__149 (lv_at hl_222 1 rfl) ?_
          refine lv_iload_n hx hb dX12_put__151 rfl (lv_at hl_222 4 rfl) ?_
          refine lv_iadd hx hb dX12_put__152 ?_
          refine lv_topi (fun x_227 ex_227 => ?_)
          obtain rfl : x_227 = 3 := ex_227.trans (by decide)
          have hP9 := hP_226.sub (ws' := []) [] rfl
          have hD9 := hD_226.sub (ws' := []) [] (by decide) rfl
          have hK9 := hK_3.sub (tys' := []) [] rfl
          refine W.widen (k := 0) (n := 0) (by decide) (by decide) ?_
          exact W.iret (v := 3) hx hb hr (fun t9 ht9 hW9 => ⟨⟨3, 4, rfl, (Or.inr (Or.inr (Or.inr (Or.inr ⟨rfl, rfl, cc_2_0, cc_2_1, cc_3_0, cc_3_1⟩)))), ⟨by rw [ht9]; exact hP9, va_K.moved hW9.alike hK9, hD9⟩⟩, hS_226.F ht9⟩) hS_226.2.2 dX12_put__153
        · refine va_zald hx hb hK_3 hP_3 1 0 rfl rfl (i := 1) (vpi (by decide)) dX12_put__34 ?_
          refine W.eq (g2 := F0 m 35 ls [.int 0]) rfl ?_
          refine lv_if_eq (tgt := 47) hx hb dX12_put__35 (by decide) (fun _ => ?_) (fun c_ => absurd (by decide) c_)
          refine lv_iconst (v := 0) hx hb dX12_put__47 (by decide) ?_
          refine lv_istore (lv' := [(5, .int 0), (0, .ref h0), (1, .int 1), (2, .int 3), (3, .long w0)]) hx hb dX12_put__48 hl (by decide) rfl (fun ls_228 hl_228 => ?_)
          clear hl
          refine lv_iload hx hb dX12_put__50 (lv_at hl_228 0 rfl) ?_
          refine lv_iload_n hx hb dX12_put__52 rfl (lv_at hl_228 3 rfl) ?_
          refine lv_iadd hx hb dX12_put__53 ?_
          refine lv_topi (fun x_229 ex_229 => ?_)
          obtain rfl : x_229 = 3 := ex_229.trans (by decide)
          refine lv_bipush (v := 100) hx hb dX12_put__54 (by decide) ?_
          refine lv_icmp_le (tgt := 62) hx hb dX12_put__56 (by decide) (fun _ => ?_) (fun c_ => absurd (by decide) c_)
          refine lv_iconst (v := 0) hx hb dX12_put__62 (by decide) ?_
          refine lv_istore (lv' := [(6, .int 0), (5, .int 0), (0, .ref h0), (1, .int 1), (2, .int 3), (3, .long w0)]) hx hb dX12_put__63 hl_228 (by decide) rfl (fun ls_230 hl_230 => ?_)
          clear hl_228
          refine lv_iload hx hb dX12_put__65 (lv_at hl_230 0 rfl) ?_
          refine lv_iload_n hx hb dX12_put__67 rfl (lv_at hl_230 4 rfl) ?_
          refine lv_icmp_ge (tgt := 108) hx hb dX12_put__68 (by decide) (fun c_ => absurd c_ (by decide)) (fun _ => ?_)
          refine lv_aload_n hx hb dX12_put__71 rfl (lv_at hl_230 2 rfl) ?_
          refine va_get (D := (dC, dI)) (ci := 15) (v := .ref h50) (C := RX12) (T := TX12) (N := 143) hx hb ht inX12 hown hK_3 hP_3 0 rfl rfl 70 (by decide) (ht _ tw_2210) (fun _ h9 => h9) rfl dX12_put__72 ?_
          refine lv_bipush (v := 100) hx hb dX12_put__75 (by decide) ?_
          refine lv_iload_n hx hb dX12_put__77 rfl (lv_at hl_230 3 rfl) ?_
          refine lv_imul hx hb dX12_put__78 ?_
          refine lv_topi (fun x_231 ex_231 => ?_)
          obtain rfl : x_231 = 100 := ex_231.trans (by decide)
          refine lv_iload hx hb dX12_put__79 (lv_at hl_230 1 rfl) ?_
          refine lv_iadd hx hb dX12_put__81 ?_
          refine lv_topi (fun x_232 ex_232 => ?_)
          obtain rfl : x_232 = 100 := ex_232.trans (by decide)
          refine lv_iload hx hb dX12_put__82 (lv_at hl_230 0 rfl) ?_
          refine lv_iadd hx hb dX12_put__84 ?_
          refine lv_topi (fun x_233 ex_233 => ?_)
          obtain rfl : x_233 = 100 := ex_233.trans (by decide)
          refine lv_lload_n hx hb dX12_put__85 rfl (lv_at hl_230 5 rfl) ?_
          refine lv_bipush (v := 16) hx hb dX12_put__86 (by decide) ?_
          refine lv_iload_n hx hb dX12_put__88 rfl (lv_at hl_230 4 rfl) ?_
          refine lv_iconst (v := 1) hx hb dX12_put__89 (by decide) ?_
          refine lv_isub hx hb dX12_put__90 ?_
          refine lv_topi (fun x_234 ex_234 => ?_)
          obtain rfl : x_234 = 2 := ex_234.trans (by decide)
          refine lv_iload hx hb dX12_put__91 (lv_at hl_230 0 rfl) ?_
          refine lv_isub hx hb dX12_put__93 ?_
          refine lv_topi (fun x_235 ex_235 => ?_)
          obtain rfl : x_235 = 2 := ex_235.trans (by decide)
          refine lv_imul hx hb dX12_put__94 ?_
          refine lv_topi (fun x_236 ex_236 => ?_)
          obtain rfl : x_236 = 32 := ex_236.trans (by decide)
          refine lv_lshr (v := (w0 >>> ((32 : Int32).toInt64 &&& 63))) hx hb dX12_put__95 rfl ?_
          refine lv_ldc2 hx hb hown (ht _ tw_2813) dX12_put__96 ?_
          refine lv_land hx hb dX12_put__99 ?_
          refine lv_l2i (v := ((w0 >>> ((32 : Int32).toInt64 &&& 63)) &&& 65535).toInt32) hx hb dX12_put__100 rfl ?_
          refine va_iast hx hb hK_3 hP_3 hD_3 hS_3 3 2 rfl rfl (i := 100) (vpi (by decide)) dX12_put__101 (fun H_237 locs_237 hP_237 hD_237 hS_237 => ?_)
          have hP_237 : va_P (dC, dI) vwCl [(h0, .inr (15, [.int 0, .int 0, .ref h1, .int 0, .int (-1), .ref h2, .ref h3, .ref h4, .ref h5, .ref h6, .ref h7, .ref h8, .ref h9, .ref h10, .ref h11, .ref h12, .ref h13, .ref h14, .ref h15, .ref h16, .ref h17, .ref h18, .ref h19, .ref h20, .ref h21, .ref h22, .ref h23, .ref h24, .ref h25, .ref h26, .ref h27, .int 0, .ref h28, .ref h29, .int 0, .int 0, .int 0, .int 0, .int 0, .int 0, .ref h30, .int 0, .ref h31, .ref h32, .ref h33, .ref h34, .ref h35, .ref h36, .ref h37, .ref h38, .int 0, .int 0, .int 0, .int 0, .ref h39, .ref h40, .ref h41, .int 0, .ref h42, .int 0, .ref h43, .int 0, .int 0, .ref h44, .ref h45, .ref h46, .int 0, .ref h47, .ref h48, .ref h49, .ref h50, .ref h51, .ref h52, .ref h53, .int 0, .ref h54, .int 0, .ref h55, .ref h56, .ref h57, .int 0, .ref h58, .ref h59, .ref h60, .ref h61, .int 0, .ref h62, .ref h63, .ref h64, .ref h65, .int 0, .int 0, .int 0, .int 0, .int 0, .int 0, .int 0, .int 0, .int 0, .ref h66, .int 0, .ref h67, .int 0, .int 0, .int 0, .int 0, .int 0, .ref h68, .int 0, .int 0, .ref h69, .int 0, .ref h70, .int 0, .ref h71, .ref h72, .int 0, .ref h73, .ref h74, .ref h75, .ref h76, .long 0, .int 0, .ref h77, .ref h78, .ref h79, .ref h80, .ref h81, .ref h82, .ref h83, .ref h84, .ref h85, .ref h86, .ref h87, .ref h88, .ref h89, .ref h90, .ref h91, .int 0, .ref h92, .ref h93, .ref h94, .int 0])), (h48, .inl (k0, 4, .inl (fun _ => 0))), (h49, .inl (k1, 4, .inl (fun _ => 0))), (h50, .inl (k2, 400, .inl (upd (fun _ => 0) 100 (((w0 >>> ((32 : Int32).toInt64 &&& 63)) &&& 65535).toInt32))))] H_237 := hP_237
          have hD_237 : va_D A [(h0, .inr (15, [.int 0, .int 0, .ref h1, .int 0, .int (-1), .ref h2, .ref h3, .ref h4, .ref h5, .ref h6, .ref h7, .ref h8, .ref h9, .ref h10, .ref h11, .ref h12, .ref h13, .ref h14, .ref h15, .ref h16, .ref h17, .ref h18, .ref h19, .ref h20, .ref h21, .ref h22, .ref h23, .ref h24, .ref h25, .ref h26, .ref h27, .int 0, .ref h28, .ref h29, .int 0, .int 0, .int 0, .int 0, .int 0, .int 0, .ref h30, .int 0, .ref h31, .ref h32, .ref h33, .ref h34, .ref h35, .ref h36, .ref h37, .ref h38, .int 0, .int 0, .int 0, .int 0, .ref h39, .ref h40, .ref h41, .int 0, .ref h42, .int 0, .ref h43, .int 0, .int 0, .ref h44, .ref h45, .ref h46, .int 0, .ref h47, .ref h48, .ref h49, .ref h50, .ref h51, .ref h52, .ref h53, .int 0, .ref h54, .int 0, .ref h55, .ref h56, .ref h57, .int 0, .ref h58, .ref h59, .ref h60, .ref h61, .int 0, .ref h62, .ref h63, .ref h64, .ref h65, .int 0, .int 0, .int 0, .int 0, .int 0, .int 0, .int 0, .int 0, .int 0, .ref h66, .int 0, .ref h67, .int 0, .int 0, .int 0, .int 0, .int 0, .ref h68, .int 0, .int 0, .ref h69, .int 0, .ref h70, .int 0, .ref h71, .ref h72, .int 0, .ref h73, .ref h74, .ref h75, .ref h76, .long 0, .int 0, .ref h77, .ref h78, .ref h79, .ref h80, .ref h81, .ref h82, .ref h83, .ref h84, .ref h85, .ref h86, .ref h87, .ref h88, .ref h89, .ref h90, .ref h91, .int 0, .ref h92, .ref h93, .ref h94, .int 0])), (h48, .inl (k0, 4, .inl (fun _ => 0))), (h49, .inl (k1, 4, .inl (fun _ => 0))), (h50, .inl (k2, 400, .inl (upd (fun _ => 0) 100 (((w0 >>> ((32 : Int32).toInt64 &&& 63)) &&& 65535).toInt32))))] := hD_237
          clear hP_3 hD_3 hS_3
          refine lv_iinc (v := 1) (lv' := [(6, .int 1), (5, .int 0), (0, .ref h0), (1, .int 1), (2, .int 3), (3, .long w0)]) hx hb dX12_put__102 hl_230 (k := 0) rfl (by decide) (by decide) rfl (fun ls_238 hl_238 => ?_)
          clear hl_230
          refine lv_goto (tgt := 65) hx hb dX12_put__105 (by decide) ?_
          refine lv_iload hx hb dX12_put__65 (lv_at hl_238 0 rfl) ?_
          refine lv_iload_n hx hb dX12_put__67 rfl (lv_at hl_238 4 rfl) ?_
          refine lv_icmp_ge (tgt := 108) hx hb dX12_put__68 (by decide) (fun c_ => absurd c_ (by decide)) (fun _ => ?_)
          refine lv_aload_n hx hb dX12_put__71 rfl (lv_at hl_238 2 rfl) ?_
          refine va_get (D := (dC, dI)) (ci := 15) (v := .ref h50) (C := RX12) (T := TX12) (N := 143) hx hb ht inX12 hown hK_3 hP_237 0 rfl rfl 70 (by decide) (ht _ tw_2210) (fun _ h9 => h9) rfl dX12_put__72 ?_
          refine lv_bipush (v := 100) hx hb dX12_put__75 (by decide) ?_
          refine lv_iload_n hx hb dX12_put__77 rfl (lv_at hl_238 3 rfl) ?_
          refine lv_imul hx hb dX12_put__78 ?_
          refine lv_topi (fun x_239 ex_239 => ?_)
          obtain rfl : x_239 = 100 := ex_239.trans (by decide)
          refine lv_iload hx hb dX12_put__79 (lv_at hl_238 1 rfl) ?_
          refine lv_iadd hx hb dX12_put__81 ?_
          refine lv_topi (fun x_240 ex_240 => ?_)
          obtain rfl : x_240 = 100 := ex_240.trans (by decide)
          refine lv_iload hx hb dX12_put__82 (lv_at hl_238 0 rfl) ?_
          refine lv_iadd hx hb dX12_put__84 ?_
          refine lv_topi (fun x_241 ex_241 => ?_)
          obtain rfl : x_241 = 101 := ex_241.trans (by decide)
          refine lv_lload_n hx hb dX12_put__85 rfl (lv_at hl_238 5 rfl) ?_
          refine lv_bipush (v := 16) hx hb dX12_put__86 (by decide) ?_
          refine lv_iload_n hx hb dX12_put__88 rfl (lv_at hl_238 4 rfl) ?_
          refine lv_iconst (v := 1) hx hb dX12_put__89 (by decide) ?_
          refine lv_isub hx hb dX12_put__90 ?_
          refine lv_topi (fun x_242 ex_242 => ?_)
          obtain rfl : x_242 = 2 := ex_242.trans (by decide)
          refine lv_iload hx hb dX12_put__91 (lv_at hl_238 0 rfl) ?_
          refine lv_isub hx hb dX12_put__93 ?_
          refine lv_topi (fun x_243 ex_243 => ?_)
          obtain rfl : x_243 = 1 := ex_243.trans (by decide)
          refine lv_imul hx hb dX12_put__94 ?_
          refine lv_topi (fun x_244 ex_244 => ?_)
          obtain rfl : x_244 = 16 := ex_244.trans (by decide)
          refine lv_lshr (v := (w0 >>> ((16 : Int32).toInt64 &&& 63))) hx hb dX12_put__95 rfl ?_
          refine lv_ldc2 hx hb hown (ht _ tw_2813) dX12_put__96 ?_
          refine lv_land hx hb dX12_put__99 ?_
          refine lv_l2i (v := ((w0 >>> ((16 : Int32).toInt64 &&& 63)) &&& 65535).toInt32) hx hb dX12_put__100 rfl ?_
          refine va_iast hx hb hK_3 hP_237 hD_237 hS_237 3 2 rfl rfl (i := 101) (vpi (by decide)) dX12_put__101 (fun H_245 locs_245 hP_245 hD_245 hS_245 => ?_)
          have hP_245 : va_P (dC, dI) vwCl [(h0, .inr (15, [.int 0, .int 0, .ref h1, .int 0, .int (-1), .ref h2, .ref h3, .ref h4, .ref h5, .ref h6, .ref h7, .ref h8, .ref h9, .ref h10, .ref h11, .ref h12, .ref h13, .ref h14, .ref h15, .ref h16, .ref h17, .ref h18, .ref h19, .ref h20, .ref h21, .ref h22, .ref h23, .ref h24, .ref h25, .ref h26, .ref h27, .int 0, .ref h28, .ref h29, .int 0, .int 0, .int 0, .int 0, .int 0, .int 0, .ref h30, .int 0, .ref h31, .ref h32, .ref h33, .ref h34, .ref h35, .ref h36, .ref h37, .ref h38, .int 0, .int 0, .int 0, .int 0, .ref h39, .ref h40, .ref h41, .int 0, .ref h42, .int 0, .ref h43, .int 0, .int 0, .ref h44, .ref h45, .ref h46, .int 0, .ref h47, .ref h48, .ref h49, .ref h50, .ref h51, .ref h52, .ref h53, .int 0, .ref h54, .int 0, .ref h55, .ref h56, .ref h57, .int 0, .ref h58, .ref h59, .ref h60, .ref h61, .int 0, .ref h62, .ref h63, .ref h64, .ref h65, .int 0, .int 0, .int 0, .int 0, .int 0, .int 0, .int 0, .int 0, .int 0, .ref h66, .int 0, .ref h67, .int 0, .int 0, .int 0, .int 0, .int 0, .ref h68, .int 0, .int 0, .ref h69, .int 0, .ref h70, .int 0, .ref h71, .ref h72, .int 0, .ref h73, .ref h74, .ref h75, .ref h76, .long 0, .int 0, .ref h77, .ref h78, .ref h79, .ref h80, .ref h81, .ref h82, .ref h83, .ref h84, .ref h85, .ref h86, .ref h87, .ref h88, .ref h89, .ref h90, .ref h91, .int 0, .ref h92, .ref h93, .ref h94, .int 0])), (h48, .inl (k0, 4, .inl (fun _ => 0))), (h49, .inl (k1, 4, .inl (fun _ => 0))), (h50, .inl (k2, 400, .inl (upd (upd (fun _ => 0) 100 (((w0 >>> ((32 : Int32).toInt64 &&& 63)) &&& 65535).toInt32)) 101 (((w0 >>> ((16 : Int32).toInt64 &&& 63)) &&& 65535).toInt32))))] H_245 := hP_245
          have hD_245 : va_D A [(h0, .inr (15, [.int 0, .int 0, .ref h1, .int 0, .int (-1), .ref h2, .ref h3, .ref h4, .ref h5, .ref h6, .ref h7, .ref h8, .ref h9, .ref h10, .ref h11, .ref h12, .ref h13, .ref h14, .ref h15, .ref h16, .ref h17, .ref h18, .ref h19, .ref h20, .ref h21, .ref h22, .ref h23, .ref h24, .ref h25, .ref h26, .ref h27, .int 0, .ref h28, .ref h29, .int 0, .int 0, .int 0, .int 0, .int 0, .int 0, .ref h30, .int 0, .ref h31, .ref h32, .ref h33, .ref h34, .ref h35, .ref h36, .ref h37, .ref h38, .int 0, .int 0, .int 0, .int 0, .ref h39, .ref h40, .ref h41, .int 0, .ref h42, .int 0, .ref h43, .int 0, .int 0, .ref h44, .ref h45, .ref h46, .int 0, .ref h47, .ref h48, .ref h49, .ref h50, .ref h51, .ref h52, .ref h53, .int 0, .ref h54, .int 0, .ref h55, .ref h56, .ref h57, .int 0, .ref h58, .ref h59, .ref h60, .ref h61, .int 0, .ref h62, .ref h63, .ref h64, .ref h65, .int 0, .int 0, .int 0, .int 0, .int 0, .int 0, .int 0, .int 0, .int 0, .ref h66, .int 0, .ref h67, .int 0, .int 0, .int 0, .int 0, .int 0, .ref h68, .int 0, .int 0, .ref h69, .int 0, .ref h70, .int 0, .ref h71, .ref h72, .int 0, .ref h73, .ref h74, .ref h75, .ref h76, .long 0, .int 0, .ref h77, .ref h78, .ref h79, .ref h80, .ref h81, .ref h82, .ref h83, .ref h84, .ref h85, .ref h86, .ref h87, .ref h88, .ref h89, .ref h90, .ref h91, .int 0, .ref h92, .ref h93, .ref h94, .int 0])), (h48, .inl (k0, 4, .inl (fun _ => 0))), (h49, .inl (k1, 4, .inl (fun _ => 0))), (h50, .inl (k2, 400, .inl (upd (upd (fun _ => 0) 100 (((w0 >>> ((32 : Int32).toInt64 &&& 63)) &&& 65535).toInt32)) 101 (((w0 >>> ((16 : Int32).toInt64 &&& 63)) &&& 65535).toInt32))))] := hD_245
          clear hP_237 hD_237 hS_237
          refine lv_iinc (v := 2) (lv' := [(6, .int 2), (5, .int 0), (0, .ref h0), (1, .int 1), (2, .int 3), (3, .long w0)]) hx hb dX12_put__102 hl_238 (k := 0) rfl (by decide) (by decide) rfl (fun ls_246 hl_246 => ?_)
          clear hl_238
          refine lv_goto (tgt := 65) hx hb dX12_put__105 (by decide) ?_
          refine lv_iload hx hb dX12_put__65 (lv_at hl_246 0 rfl) ?_
          refine lv_iload_n hx hb dX12_put__67 rfl (lv_at hl_246 4 rfl) ?_
          refine lv_icmp_ge (tgt := 108) hx hb dX12_put__68 (by decide) (fun c_ => absurd c_ (by decide)) (fun _ => ?_)
          refine lv_aload_n hx hb dX12_put__71 rfl (lv_at hl_246 2 rfl) ?_
          refine va_get (D := (dC, dI)) (ci := 15) (v := .ref h50) (C := RX12) (T := TX12) (N := 143) hx hb ht inX12 hown hK_3 hP_245 0 rfl rfl 70 (by decide) (ht _ tw_2210) (fun _ h9 => h9) rfl dX12_put__72 ?_
          refine lv_bipush (v := 100) hx hb dX12_put__75 (by decide) ?_
          refine lv_iload_n hx hb dX12_put__77 rfl (lv_at hl_246 3 rfl) ?_
          refine lv_imul hx hb dX12_put__78 ?_
          refine lv_topi (fun x_247 ex_247 => ?_)
          obtain rfl : x_247 = 100 := ex_247.trans (by decide)
          refine lv_iload hx hb dX12_put__79 (lv_at hl_246 1 rfl) ?_
          refine lv_iadd hx hb dX12_put__81 ?_
          refine lv_topi (fun x_248 ex_248 => ?_)
          obtain rfl : x_248 = 100 := ex_248.trans (by decide)
          refine lv_iload hx hb dX12_put__82 (lv_at hl_246 0 rfl) ?_
          refine lv_iadd hx hb dX12_put__84 ?_
          refine lv_topi (fun x_249 ex_249 => ?_)
          obtain rfl : x_249 = 102 := ex_249.trans (by decide)
          refine lv_lload_n hx hb dX12_put__85 rfl (lv_at hl_246 5 rfl) ?_
          refine lv_bipush (v := 16) hx hb dX12_put__86 (by decide) ?_
          refine lv_iload_n hx hb dX12_put__88 rfl (lv_at hl_246 4 rfl) ?_
          refine lv_iconst (v := 1) hx hb dX12_put__89 (by decide) ?_
          refine lv_isub hx hb dX12_put__90 ?_
          refine lv_topi (fun x_250 ex_250 => ?_)
          obtain rfl : x_250 = 2 := ex_250.trans (by decide)
          refine lv_iload hx hb dX12_put__91 (lv_at hl_246 0 rfl) ?_
          refine lv_isub hx hb dX12_put__93 ?_
          refine lv_topi (fun x_251 ex_251 => ?_)
          obtain rfl : x_251 = 0 := ex_251.trans (by decide)
          refine lv_imul hx hb dX12_put__94 ?_
          refine lv_topi (fun x_252 ex_252 => ?_)
          obtain rfl : x_252 = 0 := ex_252.trans (by decide)
          refine lv_lshr (v := (w0 >>> ((0 : Int32).toInt64 &&& 63))) hx hb dX12_put__95 rfl ?_
          refine lv_ldc2 hx hb hown (ht _ tw_2813) dX12_put__96 ?_
          refine lv_land hx hb dX12_put__99 ?_
          refine lv_l2i (v := ((w0 >>> ((0 : Int32).toInt64 &&& 63)) &&& 65535).toInt32) hx hb dX12_put__100 rfl ?_
          refine va_iast hx hb hK_3 hP_245 hD_245 hS_245 3 2 rfl rfl (i := 102) (vpi (by decide)) dX12_put__101 (fun H_253 locs_253 hP_253 hD_253 hS_253 => ?_)
          have hP_253 : va_P (dC, dI) vwCl [(h0, .inr (15, [.int 0, .int 0, .ref h1, .int 0, .int (-1), .ref h2, .ref h3, .ref h4, .ref h5, .ref h6, .ref h7, .ref h8, .ref h9, .ref h10, .ref h11, .ref h12, .ref h13, .ref h14, .ref h15, .ref h16, .ref h17, .ref h18, .ref h19, .ref h20, .ref h21, .ref h22, .ref h23, .ref h24, .ref h25, .ref h26, .ref h27, .int 0, .ref h28, .ref h29, .int 0, .int 0, .int 0, .int 0, .int 0, .int 0, .ref h30, .int 0, .ref h31, .ref h32, .ref h33, .ref h34, .ref h35, .ref h36, .ref h37, .ref h38, .int 0, .int 0, .int 0, .int 0, .ref h39, .ref h40, .ref h41, .int 0, .ref h42, .int 0, .ref h43, .int 0, .int 0, .ref h44, .ref h45, .ref h46, .int 0, .ref h47, .ref h48, .ref h49, .ref h50, .ref h51, .ref h52, .ref h53, .int 0, .ref h54, .int 0, .ref h55, .ref h56, .ref h57, .int 0, .ref h58, .ref h59, .ref h60, .ref h61, .int 0, .ref h62, .ref h63, .ref h64, .ref h65, .int 0, .int 0, .int 0, .int 0, .int 0, .int 0, .int 0, .int 0, .int 0, .ref h66, .int 0, .ref h67, .int 0, .int 0, .int 0, .int 0, .int 0, .ref h68, .int 0, .int 0, .ref h69, .int 0, .ref h70, .int 0, .ref h71, .ref h72, .int 0, .ref h73, .ref h74, .ref h75, .ref h76, .long 0, .int 0, .ref h77, .ref h78, .ref h79, .ref h80, .ref h81, .ref h82, .ref h83, .ref h84, .ref h85, .ref h86, .ref h87, .ref h88, .ref h89, .ref h90, .ref h91, .int 0, .ref h92, .ref h93, .ref h94, .int 0])), (h48, .inl (k0, 4, .inl (fun _ => 0))), (h49, .inl (k1, 4, .inl (fun _ => 0))), (h50, .inl (k2, 400, .inl (upd (upd (upd (fun _ => 0) 100 (((w0 >>> ((32 : Int32).toInt64 &&& 63)) &&& 65535).toInt32)) 101 (((w0 >>> ((16 : Int32).toInt64 &&& 63)) &&& 65535).toInt32)) 102 (((w0 >>> ((0 : Int32).toInt64 &&& 63)) &&& 65535).toInt32))))] H_253 := hP_253
          have hD_253 : va_D A [(h0, .inr (15, [.int 0, .int 0, .ref h1, .int 0, .int (-1), .ref h2, .ref h3, .ref h4, .ref h5, .ref h6, .ref h7, .ref h8, .ref h9, .ref h10, .ref h11, .ref h12, .ref h13, .ref h14, .ref h15, .ref h16, .ref h17, .ref h18, .ref h19, .ref h20, .ref h21, .ref h22, .ref h23, .ref h24, .ref h25, .ref h26, .ref h27, .int 0, .ref h28, .ref h29, .int 0, .int 0, .int 0, .int 0, .int 0, .int 0, .ref h30, .int 0, .ref h31, .ref h32, .ref h33, .ref h34, .ref h35, .ref h36, .ref h37, .ref h38, .int 0, .int 0, .int 0, .int 0, .ref h39, .ref h40, .ref h41, .int 0, .ref h42, .int 0, .ref h43, .int 0, .int 0, .ref h44, .ref h45, .ref h46, .int 0, .ref h47, .ref h48, .ref h49, .ref h50, .ref h51, .ref h52, .ref h53, .int 0, .ref h54, .int 0, .ref h55, .ref h56, .ref h57, .int 0, .ref h58, .ref h59, .ref h60, .ref h61, .int 0, .ref h62, .ref h63, .ref h64, .ref h65, .int 0, .int 0, .int 0, .int 0, .int 0, .int 0, .int 0, .int 0, .int 0, .ref h66, .int 0, .ref h67, .int 0, .int 0, .int 0, .int 0, .int 0, .ref h68, .int 0, .int 0, .ref h69, .int 0, .ref h70, .int 0, .ref h71, .ref h72, .int 0, .ref h73, .ref h74, .ref h75, .ref h76, .long 0, .int 0, .ref h77, .ref h78, .ref h79, .ref h80, .ref h81, .ref h82, .ref h83, .ref h84, .ref h85, .ref h86, .ref h87, .ref h88, .ref h89, .ref h90, .ref h91, .int 0, .ref h92, .ref h93, .ref h94, .int 0])), (h48, .inl (k0, 4, .inl (fun _ => 0))), (h49, .inl (k1, 4, .inl (fun _ => 0))), (h50, .inl (k2, 400, .inl (upd (upd (upd (fun _ => 0) 100 (((w0 >>> ((32 : Int32).toInt64 &&& 63)) &&& 65535).toInt32)) 101 (((w0 >>> ((16 : Int32).toInt64 &&& 63)) &&& 65535).toInt32)) 102 (((w0 >>> ((0 : Int32).toInt64 &&& 63)) &&& 65535).toInt32))))] := hD_253
          clear hP_245 hD_245 hS_245
          refine lv_iinc (v := 3) (lv' := [(6, .int 3), (5, .int 0), (0, .ref h0), (1, .int 1), (2, .int 3), (3, .long w0)]) hx hb dX12_put__102 hl_246 (k := 0) rfl (by decide) (by decide) rfl (fun ls_254 hl_254 => ?_)
          clear hl_246
          refine lv_goto (tgt := 65) hx hb dX12_put__105 (by decide) ?_
          refine lv_iload hx hb dX12_put__65 (lv_at hl_254 0 rfl) ?_
          refine lv_iload_n hx hb dX12_put__67 rfl (lv_at hl_254 4 rfl) ?_
          refine lv_icmp_ge (tgt := 108) hx hb dX12_put__68 (by decide) (fun _ => ?_) (fun c_ => absurd (by decide) c_)
          refine lv_aload_n hx hb dX12_put__108 rfl (lv_at hl_254 2 rfl) ?_
          refine va_get (D := (dC, dI)) (ci := 15) (v := .ref h48) (C := RX12) (T := TX12) (N := 143) hx hb ht inX12 hown hK_3 hP_253 0 rfl rfl 68 (by decide) (ht _ tw_2208) (fun _ h9 => h9) rfl dX12_put__109 ?_
          refine lv_iload_n hx hb dX12_put__112 rfl (lv_at hl_254 3 rfl) ?_
          refine lv_iconst (v := 1) hx hb dX12_put__113 (by decide) ?_
          refine va_zast hx hb hK_3 hP_253 hD_253 hS_253 1 0 rfl rfl (i := 1) (vpi (by decide)) dX12_put__114 (fun H_255 locs_255 hP_255 hD_255 hS_255 => ?_)
          have hP_255 : va_P (dC, dI) vwCl [(h0, .inr (15, [.int 0, .int 0, .ref h1, .int 0, .int (-1), .ref h2, .ref h3, .ref h4, .ref h5, .ref h6, .ref h7, .ref h8, .ref h9, .ref h10, .ref h11, .ref h12, .ref h13, .ref h14, .ref h15, .ref h16, .ref h17, .ref h18, .ref h19, .ref h20, .ref h21, .ref h22, .ref h23, .ref h24, .ref h25, .ref h26, .ref h27, .int 0, .ref h28, .ref h29, .int 0, .int 0, .int 0, .int 0, .int 0, .int 0, .ref h30, .int 0, .ref h31, .ref h32, .ref h33, .ref h34, .ref h35, .ref h36, .ref h37, .ref h38, .int 0, .int 0, .int 0, .int 0, .ref h39, .ref h40, .ref h41, .int 0, .ref h42, .int 0, .ref h43, .int 0, .int 0, .ref h44, .ref h45, .ref h46, .int 0, .ref h47, .ref h48, .ref h49, .ref h50, .ref h51, .ref h52, .ref h53, .int 0, .ref h54, .int 0, .ref h55, .ref h56, .ref h57, .int 0, .ref h58, .ref h59, .ref h60, .ref h61, .int 0, .ref h62, .ref h63, .ref h64, .ref h65, .int 0, .int 0, .int 0, .int 0, .int 0, .int 0, .int 0, .int 0, .int 0, .ref h66, .int 0, .ref h67, .int 0, .int 0, .int 0, .int 0, .int 0, .ref h68, .int 0, .int 0, .ref h69, .int 0, .ref h70, .int 0, .ref h71, .ref h72, .int 0, .ref h73, .ref h74, .ref h75, .ref h76, .long 0, .int 0, .ref h77, .ref h78, .ref h79, .ref h80, .ref h81, .ref h82, .ref h83, .ref h84, .ref h85, .ref h86, .ref h87, .ref h88, .ref h89, .ref h90, .ref h91, .int 0, .ref h92, .ref h93, .ref h94, .int 0])), (h48, .inl (k0, 4, .inl (upd (fun _ => 0) 1 1))), (h49, .inl (k1, 4, .inl (fun _ => 0))), (h50, .inl (k2, 400, .inl (upd (upd (upd (fun _ => 0) 100 (((w0 >>> ((32 : Int32).toInt64 &&& 63)) &&& 65535).toInt32)) 101 (((w0 >>> ((16 : Int32).toInt64 &&& 63)) &&& 65535).toInt32)) 102 (((w0 >>> ((0 : Int32).toInt64 &&& 63)) &&& 65535).toInt32))))] H_255 := hP_255
          have hD_255 : va_D A [(h0, .inr (15, [.int 0, .int 0, .ref h1, .int 0, .int (-1), .ref h2, .ref h3, .ref h4, .ref h5, .ref h6, .ref h7, .ref h8, .ref h9, .ref h10, .ref h11, .ref h12, .ref h13, .ref h14, .ref h15, .ref h16, .ref h17, .ref h18, .ref h19, .ref h20, .ref h21, .ref h22, .ref h23, .ref h24, .ref h25, .ref h26, .ref h27, .int 0, .ref h28, .ref h29, .int 0, .int 0, .int 0, .int 0, .int 0, .int 0, .ref h30, .int 0, .ref h31, .ref h32, .ref h33, .ref h34, .ref h35, .ref h36, .ref h37, .ref h38, .int 0, .int 0, .int 0, .int 0, .ref h39, .ref h40, .ref h41, .int 0, .ref h42, .int 0, .ref h43, .int 0, .int 0, .ref h44, .ref h45, .ref h46, .int 0, .ref h47, .ref h48, .ref h49, .ref h50, .ref h51, .ref h52, .ref h53, .int 0, .ref h54, .int 0, .ref h55, .ref h56, .ref h57, .int 0, .ref h58, .ref h59, .ref h60, .ref h61, .int 0, .ref h62, .ref h63, .ref h64, .ref h65, .int 0, .int 0, .int 0, .int 0, .int 0, .int 0, .int 0, .int 0, .int 0, .ref h66, .int 0, .ref h67, .int 0, .int 0, .int 0, .int 0, .int 0, .ref h68, .int 0, .int 0, .ref h69, .int 0, .ref h70, .int 0, .ref h71, .ref h72, .int 0, .ref h73, .ref h74, .ref h75, .ref h76, .long 0, .int 0, .ref h77, .ref h78, .ref h79, .ref h80, .ref h81, .ref h82, .ref h83, .ref h84, .ref h85, .ref h86, .ref h87, .ref h88, .ref h89, .ref h90, .ref h91, .int 0, .ref h92, .ref h93, .ref h94, .int 0])), (h48, .inl (k0, 4, .inl (upd (fun _ => 0) 1 1))), (h49, .inl (k1, 4, .inl (fun _ => 0))), (h50, .inl (k2, 400, .inl (upd (upd (upd (fun _ => 0) 100 (((w0 >>> ((32 : Int32).toInt64 &&& 63)) &&& 65535).toInt32)) 101 (((w0 >>> ((16 : Int32).toInt64 &&& 63)) &&& 65535).toInt32)) 102 (((w0 >>> ((0 : Int32).toInt64 &&& 63)) &&& 65535).toInt32))))] := hD_255
          clear hP_253 hD_253 hS_253
          refine lv_aload_n hx hb dX12_put__115 rfl (lv_at hl_254 2 rfl) ?_
          refine va_get (D := (dC, dI)) (ci := 15) (v := .ref h49) (C := RX12) (T := TX12) (N := 143) hx hb ht inX12 hown hK_3 hP_255 0 rfl rfl 69 (by decide) (ht _ tw_2209) (fun _ h9 => h9) rfl dX12_put__116 ?_
          refine lv_iload_n hx hb dX12_put__119 rfl (lv_at hl_254 3 rfl) ?_
          refine lv_iload hx hb dX12_put__120 (lv_at hl_254 1 rfl) ?_
          refine lv_iload_n hx hb dX12_put__122 rfl (lv_at hl_254 4 rfl) ?_
          refine lv_iadd hx hb dX12_put__123 ?_
          refine lv_topi (fun x_256 ex_256 => ?_)
          obtain rfl : x_256 = 3 := ex_256.trans (by decide)
          refine va_iast hx hb hK_3 hP_255 hD_255 hS_255 2 1 rfl rfl (i := 1) (vpi (by decide)) dX12_put__124 (fun H_257 locs_257 hP_257 hD_257 hS_257 => ?_)
          have hP_257 : va_P (dC, dI) vwCl [(h0, .inr (15, [.int 0, .int 0, .ref h1, .int 0, .int (-1), .ref h2, .ref h3, .ref h4, .ref h5, .ref h6, .ref h7, .ref h8, .ref h9, .ref h10, .ref h11, .ref h12, .ref h13, .ref h14, .ref h15, .ref h16, .ref h17, .ref h18, .ref h19, .ref h20, .ref h21, .ref h22, .ref h23, .ref h24, .ref h25, .ref h26, .ref h27, .int 0, .ref h28, .ref h29, .int 0, .int 0, .int 0, .int 0, .int 0, .int 0, .ref h30, .int 0, .ref h31, .ref h32, .ref h33, .ref h34, .ref h35, .ref h36, .ref h37, .ref h38, .int 0, .int 0, .int 0, .int 0, .ref h39, .ref h40, .ref h41, .int 0, .ref h42, .int 0, .ref h43, .int 0, .int 0, .ref h44, .ref h45, .ref h46, .int 0, .ref h47, .ref h48, .ref h49, .ref h50, .ref h51, .ref h52, .ref h53, .int 0, .ref h54, .int 0, .ref h55, .ref h56, .ref h57, .int 0, .ref h58, .ref h59, .ref h60, .ref h61, .int 0, .ref h62, .ref h63, .ref h64, .ref h65, .int 0, .int 0, .int 0, .int 0, .int 0, .int 0, .int 0, .int 0, .int 0, .ref h66, .int 0, .ref h67, .int 0, .int 0, .int 0, .int 0, .int 0, .ref h68, .int 0, .int 0, .ref h69, .int 0, .ref h70, .int 0, .ref h71, .ref h72, .int 0, .ref h73, .ref h74, .ref h75, .ref h76, .long 0, .int 0, .ref h77, .ref h78, .ref h79, .ref h80, .ref h81, .ref h82, .ref h83, .ref h84, .ref h85, .ref h86, .ref h87, .ref h88, .ref h89, .ref h90, .ref h91, .int 0, .ref h92, .ref h93, .ref h94, .int 0])), (h48, .inl (k0, 4, .inl (upd (fun _ => 0) 1 1))), (h49, .inl (k1, 4, .inl (upd (fun _ => 0) 1 3))), (h50, .inl (k2, 400, .inl (upd (upd (upd (fun _ => 0) 100 (((w0 >>> ((32 : Int32).toInt64 &&& 63)) &&& 65535).toInt32)) 101 (((w0 >>> ((16 : Int32).toInt64 &&& 63)) &&& 65535).toInt32)) 102 (((w0 >>> ((0 : Int32).toInt64 &&& 63)) &&& 65535).toInt32))))] H_257 := hP_257
          have hD_257 : va_D A [(h0, .inr (15, [.int 0, .int 0, .ref h1, .int 0, .int (-1), .ref h2, .ref h3, .ref h4, .ref h5, .ref h6, .ref h7, .ref h8, .ref h9, .ref h10, .ref h11, .ref h12, .ref h13, .ref h14, .ref h15, .ref h16, .ref h17, .ref h18, .ref h19, .ref h20, .ref h21, .ref h22, .ref h23, .ref h24, .ref h25, .ref h26, .ref h27, .int 0, .ref h28, .ref h29, .int 0, .int 0, .int 0, .int 0, .int 0, .int 0, .ref h30, .int 0, .ref h31, .ref h32, .ref h33, .ref h34, .ref h35, .ref h36, .ref h37, .ref h38, .int 0, .int 0, .int 0, .int 0, .ref h39, .ref h40, .ref h41, .int 0, .ref h42, .int 0, .ref h43, .int 0, .int 0, .ref h44, .ref h45, .ref h46, .int 0, .ref h47, .ref h48, .ref h49, .ref h50, .ref h51, .ref h52, .ref h53, .int 0, .ref h54, .int 0, .ref h55, .ref h56, .ref h57, .int 0, .ref h58, .ref h59, .ref h60, .ref h61, .int 0, .ref h62, .ref h63, .ref h64, .ref h65, .int 0, .int 0, .int 0, .int 0, .int 0, .int 0, .int 0, .int 0, .int 0, .ref h66, .int 0, .ref h67, .int 0, .int 0, .int 0, .int 0, .int 0, .ref h68, .int 0, .int 0, .ref h69, .int 0, .ref h70, .int 0, .ref h71, .ref h72, .int 0, .ref h73, .ref h74, .ref h75, .ref h76, .long 0, .int 0, .ref h77, .ref h78, .ref h79, .ref h80, .ref h81, .ref h82, .ref h83, .ref h84, .ref h85, .ref h86, .ref h87, .ref h88, .ref h89, .ref h90, .ref h91, .int 0, .ref h92, .ref h93, .ref h94, .int 0])), (h48, .inl (k0, 4, .inl (upd (fun _ => 0) 1 1))), (h49, .inl (k1, 4, .inl (upd (fun _ => 0) 1 3))), (h50, .inl (k2, 400, .inl (upd (upd (upd (fun _ => 0) 100 (((w0 >>> ((32 : Int32).toInt64 &&& 63)) &&& 65535).toInt32)) 101 (((w0 >>> ((16 : Int32).toInt64 &&& 63)) &&& 65535).toInt32)) 102 (((w0 >>> ((0 : Int32).toInt64 &&& 63)) &&& 65535).toInt32))))] := hD_257
          clear hP_255 hD_255 hS_255
          refine lv_aload_n hx hb dX12_put__125 rfl (lv_at hl_254 2 rfl) ?_
          refine lv_aload_n hx hb dX12_put__126 rfl (lv_at hl_254 2 rfl) ?_
          refine va_get (D := (dC, dI)) (ci := 15) (v := .int 0) (C := RX12) (T := TX12) (N := 143) hx hb ht inX12 hown hK_3 hP_257 0 rfl rfl 102 (by decide) (ht _ tw_2242) (fun _ h9 => h9) rfl dX12_put__127 ?_
          refine lv_if_eq (tgt := 145) hx hb dX12_put__130 (by decide) (fun _ => ?_) (fun c_ => absurd (by decide) c_)
          refine lv_iconst (v := 0) hx hb dX12_put__145 (by decide) ?_
          refine va_put (D := (dC, dI)) (ci := 15) (v := .int 0) (ty := .boolean) (C := RX12) (T := TX12) (N := 143) hx hb ht inX12 tyX12 tyX12_ok nmX12 hown hK_3 hP_257 hD_257 hS_257 0 rfl rfl 102 (by decide) (ht _ tw_2242) (fun _ h9 => h9) rfl (by decide +kernel) rfl rfl (Nat.le_of_ble_eq_true rfl) dX12_put__146 (fun H_258 locs_258 hP_258 hD_258 hS_258 => ?_)
          have hP_258 : va_P (dC, dI) vwCl [(h0, .inr (15, [.int 0, .int 0, .ref h1, .int 0, .int (-1), .ref h2, .ref h3, .ref h4, .ref h5, .ref h6, .ref h7, .ref h8, .ref h9, .ref h10, .ref h11, .ref h12, .ref h13, .ref h14, .ref h15, .ref h16, .ref h17, .ref h18, .ref h19, .ref h20, .ref h21, .ref h22, .ref h23, .ref h24, .ref h25, .ref h26, .ref h27, .int 0, .ref h28, .ref h29, .int 0, .int 0, .int 0, .int 0, .int 0, .int 0, .ref h30, .int 0, .ref h31, .ref h32, .ref h33, .ref h34, .ref h35, .ref h36, .ref h37, .ref h38, .int 0, .int 0, .int 0, .int 0, .ref h39, .ref h40, .ref h41, .int 0, .ref h42, .int 0, .ref h43, .int 0, .int 0, .ref h44, .ref h45, .ref h46, .int 0, .ref h47, .ref h48, .ref h49, .ref h50, .ref h51, .ref h52, .ref h53, .int 0, .ref h54, .int 0, .ref h55, .ref h56, .ref h57, .int 0, .ref h58, .ref h59, .ref h60, .ref h61, .int 0, .ref h62, .ref h63, .ref h64, .ref h65, .int 0, .int 0, .int 0, .int 0, .int 0, .int 0, .int 0, .int 0, .int 0, .ref h66, .int 0, .ref h67, .int 0, .int 0, .int 0, .int 0, .int 0, .ref h68, .int 0, .int 0, .ref h69, .int 0, .ref h70, .int 0, .ref h71, .ref h72, .int 0, .ref h73, .ref h74, .ref h75, .ref h76, .long 0, .int 0, .ref h77, .ref h78, .ref h79, .ref h80, .ref h81, .ref h82, .ref h83, .ref h84, .ref h85, .ref h86, .ref h87, .ref h88, .ref h89, .ref h90, .ref h91, .int 0, .ref h92, .ref h93, .ref h94, .int 0])), (h48, .inl (k0, 4, .inl (upd (fun _ => 0) 1 1))), (h49, .inl (k1, 4, .inl (upd (fun _ => 0) 1 3))), (h50, .inl (k2, 400, .inl (upd (upd (upd (fun _ => 0) 100 (((w0 >>> ((32 : Int32).toInt64 &&& 63)) &&& 65535).toInt32)) 101 (((w0 >>> ((16 : Int32).toInt64 &&& 63)) &&& 65535).toInt32)) 102 (((w0 >>> ((0 : Int32).toInt64 &&& 63)) &&& 65535).toInt32))))] H_258 := hP_258
          have hD_258 : va_D A [(h0, .inr (15, [.int 0, .int 0, .ref h1, .int 0, .int (-1), .ref h2, .ref h3, .ref h4, .ref h5, .ref h6, .ref h7, .ref h8, .ref h9, .ref h10, .ref h11, .ref h12, .ref h13, .ref h14, .ref h15, .ref h16, .ref h17, .ref h18, .ref h19, .ref h20, .ref h21, .ref h22, .ref h23, .ref h24, .ref h25, .ref h26, .ref h27, .int 0, .ref h28, .ref h29, .int 0, .int 0, .int 0, .int 0, .int 0, .int 0, .ref h30, .int 0, .ref h31, .ref h32, .ref h33, .ref h34, .ref h35, .ref h36, .ref h37, .ref h38, .int 0, .int 0, .int 0, .int 0, .ref h39, .ref h40, .ref h41, .int 0, .ref h42, .int 0, .ref h43, .int 0, .int 0, .ref h44, .ref h45, .ref h46, .int 0, .ref h47, .ref h48, .ref h49, .ref h50, .ref h51, .ref h52, .ref h53, .int 0, .ref h54, .int 0, .ref h55, .ref h56, .ref h57, .int 0, .ref h58, .ref h59, .ref h60, .ref h61, .int 0, .ref h62, .ref h63, .ref h64, .ref h65, .int 0, .int 0, .int 0, .int 0, .int 0, .int 0, .int 0, .int 0, .int 0, .ref h66, .int 0, .ref h67, .int 0, .int 0, .int 0, .int 0, .int 0, .ref h68, .int 0, .int 0, .ref h69, .int 0, .ref h70, .int 0, .ref h71, .ref h72, .int 0, .ref h73, .ref h74, .ref h75, .ref h76, .long 0, .int 0, .ref h77, .ref h78, .ref h79, .ref h80, .ref h81, .ref h82, .ref h83, .ref h84, .ref h85, .ref h86, .ref h87, .ref h88, .ref h89, .ref h90, .ref h91, .int 0, .ref h92, .ref h93, .ref h94, .int 0])), (h48, .inl (k0, 4, .inl (upd (fun _ => 0) 1 1))), (h49, .inl (k1, 4, .inl (upd (fun _ => 0) 1 3))), (h50, .inl (k2, 400, .inl (upd (upd (upd (fun _ => 0) 100 (((w0 >>> ((32 : Int32).toInt64 &&& 63)) &&& 65535).toInt32)) 101 (((w0 >>> ((16 : Int32).toInt64 &&& 63)) &&& 65535).toInt32)) 102 (((w0 >>> ((0 : Int32).toInt64 &&& 63)) &&& 65535).toInt32))))] := hD_258
          clear hP_257 hD_257 hS_257
          refine lv_iload hx hb dX12_put__149 (lv_at hl_254 1 rfl) ?_
          refine lv_iload_n hx hb dX12_put__151 rfl (lv_at hl_254 4 rfl) ?_
          refine lv_iadd hx hb dX12_put__152 ?_
          refine lv_topi (fun x_259 ex_259 => ?_)
          obtain rfl : x_259 = 3 := ex_259.trans (by decide)
          have hP9 := hP_258.sub (ws' := []) [] rfl
          have hD9 := hD_258.sub (ws' := []) [] (by decide) rfl
          have hK9 := hK_3.sub (tys' := []) [] rfl
          refine W.widen (k := 0) (n := 0) (by decide) (by decide) ?_
          exact W.iret (v := 3) hx hb hr (fun t9 ht9 hW9 => ⟨⟨3, 4, rfl, (Or.inr (Or.inr (Or.inr (Or.inr ⟨rfl, rfl, cc_2_0, cc_2_1, cc_3_0, cc_3_1⟩)))), ⟨by rw [ht9]; exact hP9, va_K.moved hW9.alike hK9, hD9⟩⟩, hS_258.F ht9⟩) hS_258.2.2 dX12_put__153
        · refine va_zald hx hb hK_3 hP_3 1 0 rfl rfl (i := 2) (vpi (by decide)) dX12_put__34 ?_
          refine W.eq (g2 := F0 m 35 ls [.int 0]) rfl ?_
          refine lv_if_eq (tgt := 47) hx hb dX12_put__35 (by decide) (fun _ => ?_) (fun c_ => absurd (by decide) c_)
          refine lv_iconst (v := 0) hx hb dX12_put__47 (by decide) ?_
          refine lv_istore (lv' := [(5, .int 0), (0, .ref h0), (1, .int 2), (2, .int 3), (3, .long w0)]) hx hb dX12_put__48 hl (by decide) rfl (fun ls_260 hl_260 => ?_)
          clear hl
          refine lv_iload hx hb dX12_put__50 (lv_at hl_260 0 rfl) ?_
          refine lv_iload_n hx hb dX12_put__52 rfl (lv_at hl_260 3 rfl) ?_
          refine lv_iadd hx hb dX12_put__53 ?_
          refine lv_topi (fun x_261 ex_261 => ?_)
          obtain rfl : x_261 = 3 := ex_261.trans (by decide)
          refine lv_bipush (v := 100) hx hb dX12_put__54 (by decide) ?_
          refine lv_icmp_le (tgt := 62) hx hb dX12_put__56 (by decide) (fun _ => ?_) (fun c_ => absurd (by decide) c_)
          refine lv_iconst (v := 0) hx hb dX12_put__62 (by decide) ?_
          refine lv_istore (lv' := [(6, .int 0), (5, .int 0), (0, .ref h0), (1, .int 2), (2, .int 3), (3, .long w0)]) hx hb dX12_put__63 hl_260 (by decide) rfl (fun ls_262 hl_262 => ?_)
          clear hl_260
          refine lv_iload hx hb dX12_put__65 (lv_at hl_262 0 rfl) ?_
          refine lv_iload_n hx hb dX12_put__67 rfl (lv_at hl_262 4 rfl) ?_
          refine lv_icmp_ge (tgt := 108) hx hb dX12_put__68 (by decide) (fun c_ => absurd c_ (by decide)) (fun _ => ?_)
          refine lv_aload_n hx hb dX12_put__71 rfl (lv_at hl_262 2 rfl) ?_
          refine va_get (D := (dC, dI)) (ci := 15) (v := .ref h50) (C := RX12) (T := TX12) (N := 143) hx hb ht inX12 hown hK_3 hP_3 0 rfl rfl 70 (by decide) (ht _ tw_2210) (fun _ h9 => h9) rfl dX12_put__72 ?_
          refine lv_bipush (v := 100) hx hb dX12_put__75 (by decide) ?_
          refine lv_iload_n hx hb dX12_put__77 rfl (lv_at hl_262 3 rfl) ?_
          refine lv_imul hx hb dX12_put__78 ?_
          refine lv_topi (fun x_263 ex_263 => ?_)
          obtain rfl : x_263 = 200 := ex_263.trans (by decide)
          refine lv_iload hx hb dX12_put__79 (lv_at hl_262 1 rfl) ?_
          refine lv_iadd hx hb dX12_put__81 ?_
          refine lv_topi (fun x_264 ex_264 => ?_)
          obtain rfl : x_264 = 200 := ex_264.trans (by decide)
          refine lv_iload hx hb dX12_put__82 (lv_at hl_262 0 rfl) ?_
          refine lv_iadd hx hb dX12_put__84 ?_
          refine lv_topi (fun x_265 ex_265 => ?_)
          obtain rfl : x_265 = 200 := ex_265.trans (by decide)
          refine lv_lload_n hx hb dX12_put__85 rfl (lv_at hl_262 5 rfl) ?_
          refine lv_bipush (v := 16) hx hb dX12_put__86 (by decide) ?_
          refine lv_iload_n hx hb dX12_put__88 rfl (lv_at hl_262 4 rfl) ?_
          refine lv_iconst (v := 1) hx hb dX12_put__89 (by decide) ?_
          refine lv_isub hx hb dX12_put__90 ?_
          refine lv_topi (fun x_266 ex_266 => ?_)
          obtain rfl : x_266 = 2 := ex_266.trans (by decide)
          refine lv_iload hx hb dX12_put__91 (lv_at hl_262 0 rfl) ?_
          refine lv_isub hx hb dX12_put__93 ?_
          refine lv_topi (fun x_267 ex_267 => ?_)
          obtain rfl : x_267 = 2 := ex_267.trans (by decide)
          refine lv_imul hx hb dX12_put__94 ?_
          refine lv_topi (fun x_268 ex_268 => ?_)
          obtain rfl : x_268 = 32 := ex_268.trans (by decide)
          refine lv_lshr (v := (w0 >>> ((32 : Int32).toInt64 &&& 63))) hx hb dX12_put__95 rfl ?_
          refine lv_ldc2 hx hb hown (ht _ tw_2813) dX12_put__96 ?_
          refine lv_land hx hb dX12_put__99 ?_
          refine lv_l2i (v := ((w0 >>> ((32 : Int32).toInt64 &&& 63)) &&& 65535).toInt32) hx hb dX12_put__100 rfl ?_
          refine va_iast hx hb hK_3 hP_3 hD_3 hS_3 3 2 rfl rfl (i := 200) (vpi (by decide)) dX12_put__101 (fun H_269 locs_269 hP_269 hD_269 hS_269 => ?_)
          have hP_269 : va_P (dC, dI) vwCl [(h0, .inr (15, [.int 0, .int 0, .ref h1, .int 0, .int (-1), .ref h2, .ref h3, .ref h4, .ref h5, .ref h6, .ref h7, .ref h8, .ref h9, .ref h10, .ref h11, .ref h12, .ref h13, .ref h14, .ref h15, .ref h16, .ref h17, .ref h18, .ref h19, .ref h20, .ref h21, .ref h22, .ref h23, .ref h24, .ref h25, .ref h26, .ref h27, .int 0, .ref h28, .ref h29, .int 0, .int 0, .int 0, .int 0, .int 0, .int 0, .ref h30, .int 0, .ref h31, .ref h32, .ref h33, .ref h34, .ref h35, .ref h36, .ref h37, .ref h38, .int 0, .int 0, .int 0, .int 0, .ref h39, .ref h40, .ref h41, .int 0, .ref h42, .int 0, .ref h43, .int 0, .int 0, .ref h44, .ref h45, .ref h46, .int 0, .ref h47, .ref h48, .ref h49, .ref h50, .ref h51, .ref h52, .ref h53, .int 0, .ref h54, .int 0, .ref h55, .ref h56, .ref h57, .int 0, .ref h58, .ref h59, .ref h60, .ref h61, .int 0, .ref h62, .ref h63, .ref h64, .ref h65, .int 0, .int 0, .int 0, .int 0, .int 0, .int 0, .int 0, .int 0, .int 0, .ref h66, .int 0, .ref h67, .int 0, .int 0, .int 0, .int 0, .int 0, .ref h68, .int 0, .int 0, .ref h69, .int 0, .ref h70, .int 0, .ref h71, .ref h72, .int 0, .ref h73, .ref h74, .ref h75, .ref h76, .long 0, .int 0, .ref h77, .ref h78, .ref h79, .ref h80, .ref h81, .ref h82, .ref h83, .ref h84, .ref h85, .ref h86, .ref h87, .ref h88, .ref h89, .ref h90, .ref h91, .int 0, .ref h92, .ref h93, .ref h94, .int 0])), (h48, .inl (k0, 4, .inl (fun _ => 0))), (h49, .inl (k1, 4, .inl (fun _ => 0))), (h50, .inl (k2, 400, .inl (upd (fun _ => 0) 200 (((w0 >>> ((32 : Int32).toInt64 &&& 63)) &&& 65535).toInt32))))] H_269 := hP_269
          have hD_269 : va_D A [(h0, .inr (15, [.int 0, .int 0, .ref h1, .int 0, .int (-1), .ref h2, .ref h3, .ref h4, .ref h5, .ref h6, .ref h7, .ref h8, .ref h9, .ref h10, .ref h11, .ref h12, .ref h13, .ref h14, .ref h15, .ref h16, .ref h17, .ref h18, .ref h19, .ref h20, .ref h21, .ref h22, .ref h23, .ref h24, .ref h25, .ref h26, .ref h27, .int 0, .ref h28, .ref h29, .int 0, .int 0, .int 0, .int 0, .int 0, .int 0, .ref h30, .int 0, .ref h31, .ref h32, .ref h33, .ref h34, .ref h35, .ref h36, .ref h37, .ref h38, .int 0, .int 0, .int 0, .int 0, .ref h39, .ref h40, .ref h41, .int 0, .ref h42, .int 0, .ref h43, .int 0, .int 0, .ref h44, .ref h45, .ref h46, .int 0, .ref h47, .ref h48, .ref h49, .ref h50, .ref h51, .ref h52, .ref h53, .int 0, .ref h54, .int 0, .ref h55, .ref h56, .ref h57, .int 0, .ref h58, .ref h59, .ref h60, .ref h61, .int 0, .ref h62, .ref h63, .ref h64, .ref h65, .int 0, .int 0, .int 0, .int 0, .int 0, .int 0, .int 0, .int 0, .int 0, .ref h66, .int 0, .ref h67, .int 0, .int 0, .int 0, .int 0, .int 0, .ref h68, .int 0, .int 0, .ref h69, .int 0, .ref h70, .int 0, .ref h71, .ref h72, .int 0, .ref h73, .ref h74, .ref h75, .ref h76, .long 0, .int 0, .ref h77, .ref h78, .ref h79, .ref h80, .ref h81, .ref h82, .ref h83, .ref h84, .ref h85, .ref h86, .ref h87, .ref h88, .ref h89, .ref h90, .ref h91, .int 0, .ref h92, .ref h93, .ref h94, .int 0])), (h48, .inl (k0, 4, .inl (fun _ => 0))), (h49, .inl (k1, 4, .inl (fun _ => 0))), (h50, .inl (k2, 400, .inl (upd (fun _ => 0) 200 (((w0 >>> ((32 : Int32).toInt64 &&& 63)) &&& 65535).toInt32))))] := hD_269
          clear hP_3 hD_3 hS_3
          refine lv_iinc (v := 1) (lv' := [(6, .int 1), (5, .int 0), (0, .ref h0), (1, .int 2), (2, .int 3), (3, .long w0)]) hx hb dX12_put__102 hl_262 (k := 0) rfl (by decide) (by decide) rfl (fun ls_270 hl_270 => ?_)
          clear hl_262
          refine lv_goto (tgt := 65) hx hb dX12_put__105 (by decide) ?_
          refine lv_iload hx hb dX12_put__65 (lv_at hl_270 0 rfl) ?_
          refine lv_iload_n hx hb dX12_put__67 rfl (lv_at hl_270 4 rfl) ?_
          refine lv_icmp_ge (tgt := 108) hx hb dX12_put__68 (by decide) (fun c_ => absurd c_ (by decide)) (fun _ => ?_)
          refine lv_aload_n hx hb dX12_put__71 rfl (lv_at hl_270 2 rfl) ?_
          refine va_get (D := (dC, dI)) (ci := 15) (v := .ref h50) (C := RX12) (T := TX12) (N := 143) hx hb ht inX12 hown hK_3 hP_269 0 rfl rfl 70 (by decide) (ht _ tw_2210) (fun _ h9 => h9) rfl dX12_put__72 ?_
          refine lv_bipush (v := 100) hx hb dX12_put__75 (by decide) ?_
          refine lv_iload_n hx hb dX12_put__77 rfl (lv_at hl_270 3 rfl) ?_
          refine lv_imul hx hb dX12_put__78 ?_
          refine lv_topi (fun x_271 ex_271 => ?_)
          obtain rfl : x_271 = 200 := ex_271.trans (by decide)
          refine lv_iload hx hb dX12_put__79 (lv_at hl_270 1 rfl) ?_
          refine lv_iadd hx hb dX12_put__81 ?_
          refine lv_topi (fun x_272 ex_272 => ?_)
          obtain rfl : x_272 = 200 := ex_272.trans (by decide)
          refine lv_iload hx hb dX12_put__82 (lv_at hl_270 0 rfl) ?_
          refine lv_iadd hx hb dX12_put__84 ?_
          refine lv_topi (fun x_273 ex_273 => ?_)
          obtain rfl : x_273 = 201 := ex_273.trans (by decide)
          refine lv_lload_n hx hb dX12_put__85 rfl (lv_at hl_270 5 rfl) ?_
          refine lv_bipush (v := 16) hx hb dX12_put__86 (by decide) ?_
          refine lv_iload_n hx hb dX12_put__88 rfl (lv_at hl_270 4 rfl) ?_
          refine lv_iconst (v := 1) hx hb dX12_put__89 (by decide) ?_
          refine lv_isub hx hb dX12_put__90 ?_
          refine lv_topi (fun x_274 ex_274 => ?_)
          obtain rfl : x_274 = 2 := ex_274.trans (by decide)
          refine lv_iload hx hb dX12_put__91 (lv_at hl_270 0 rfl) ?_
          refine lv_isub hx hb dX12_put__93 ?_
          refine lv_topi (fun x_275 ex_275 => ?_)
          obtain rfl : x_275 = 1 := ex_275.trans (by decide)
          refine lv_imul hx hb dX12_put__94 ?_
          refine lv_topi (fun x_276 ex_276 => ?_)
          obtain rfl : x_276 = 16 := ex_276.trans (by decide)
          refine lv_lshr (v := (w0 >>> ((16 : Int32).toInt64 &&& 63))) hx hb dX12_put__95 rfl ?_
          refine lv_ldc2 hx hb hown (ht _ tw_2813) dX12_put__96 ?_
          refine lv_land hx hb dX12_put__99 ?_
          refine lv_l2i (v := ((w0 >>> ((16 : Int32).toInt64 &&& 63)) &&& 65535).toInt32) hx hb dX12_put__100 rfl ?_
          refine va_iast hx hb hK_3 hP_269 hD_269 hS_269 3 2 rfl rfl (i := 201) (vpi (by decide)) dX12_put__101 (fun H_277 locs_277 hP_277 hD_277 hS_277 => ?_)
          have hP_277 : va_P (dC, dI) vwCl [(h0, .inr (15, [.int 0, .int 0, .ref h1, .int 0, .int (-1), .ref h2, .ref h3, .ref h4, .ref h5, .ref h6, .ref h7, .ref h8, .ref h9, .ref h10, .ref h11, .ref h12, .ref h13, .ref h14, .ref h15, .ref h16, .ref h17, .ref h18, .ref h19, .ref h20, .ref h21, .ref h22, .ref h23, .ref h24, .ref h25, .ref h26, .ref h27, .int 0, .ref h28, .ref h29, .int 0, .int 0, .int 0, .int 0, .int 0, .int 0, .ref h30, .int 0, .ref h31, .ref h32, .ref h33, .ref h34, .ref h35, .ref h36, .ref h37, .ref h38, .int 0, .int 0, .int 0, .int 0, .ref h39, .ref h40, .ref h41, .int 0, .ref h42, .int 0, .ref h43, .int 0, .int 0, .ref h44, .ref h45, .ref h46, .int 0, .ref h47, .ref h48, .ref h49, .ref h50, .ref h51, .ref h52, .ref h53, .int 0, .ref h54, .int 0, .ref h55, .ref h56, .ref h57, .int 0, .ref h58, .ref h59, .ref h60, .ref h61, .int 0, .ref h62, .ref h63, .ref h64, .ref h65, .int 0, .int 0, .int 0, .int 0, .int 0, .int 0, .int 0, .int 0, .int 0, .ref h66, .int 0, .ref h67, .int 0, .int 0, .int 0, .int 0, .int 0, .ref h68, .int 0, .int 0, .ref h69, .int 0, .ref h70, .int 0, .ref h71, .ref h72, .int 0, .ref h73, .ref h74, .ref h75, .ref h76, .long 0, .int 0, .ref h77, .ref h78, .ref h79, .ref h80, .ref h81, .ref h82, .ref h83, .ref h84, .ref h85, .ref h86, .ref h87, .ref h88, .ref h89, .ref h90, .ref h91, .int 0, .ref h92, .ref h93, .ref h94, .int 0])), (h48, .inl (k0, 4, .inl (fun _ => 0))), (h49, .inl (k1, 4, .inl (fun _ => 0))), (h50, .inl (k2, 400, .inl (upd (upd (fun _ => 0) 200 (((w0 >>> ((32 : Int32).toInt64 &&& 63)) &&& 65535).toInt32)) 201 (((w0 >>> ((16 : Int32).toInt64 &&& 63)) &&& 65535).toInt32))))] H_277 := hP_277
          have hD_277 : va_D A [(h0, .inr (15, [.int 0, .int 0, .ref h1, .int 0, .int (-1), .ref h2, .ref h3, .ref h4, .ref h5, .ref h6, .ref h7, .ref h8, .ref h9, .ref h10, .ref h11, .ref h12, .ref h13, .ref h14, .ref h15, .ref h16, .ref h17, .ref h18, .ref h19, .ref h20, .ref h21, .ref h22, .ref h23, .ref h24, .ref h25, .ref h26, .ref h27, .int 0, .ref h28, .ref h29, .int 0, .int 0, .int 0, .int 0, .int 0, .int 0, .ref h30, .int 0, .ref h31, .ref h32, .ref h33, .ref h34, .ref h35, .ref h36, .ref h37, .ref h38, .int 0, .int 0, .int 0, .int 0, .ref h39, .ref h40, .ref h41, .int 0, .ref h42, .int 0, .ref h43, .int 0, .int 0, .ref h44, .ref h45, .ref h46, .int 0, .ref h47, .ref h48, .ref h49, .ref h50, .ref h51, .ref h52, .ref h53, .int 0, .ref h54, .int 0, .ref h55, .ref h56, .ref h57, .int 0, .ref h58, .ref h59, .ref h60, .ref h61, .int 0, .ref h62, .ref h63, .ref h64, .ref h65, .int 0, .int 0, .int 0, .int 0, .int 0, .int 0, .int 0, .int 0, .int 0, .ref h66, .int 0, .ref h67, .int 0, .int 0, .int 0, .int 0, .int 0, .ref h68, .int 0, .int 0, .ref h69, .int 0, .ref h70, .int 0, .ref h71, .ref h72, .int 0, .ref h73, .ref h74, .ref h75, .ref h76, .long 0, .int 0, .ref h77, .ref h78, .ref h79, .ref h80, .ref h81, .ref h82, .ref h83, .ref h84, .ref h85, .ref h86, .ref h87, .ref h88, .ref h89, .ref h90, .ref h91, .int 0, .ref h92, .ref h93, .ref h94, .int 0])), (h48, .inl (k0, 4, .inl (fun _ => 0))), (h49, .inl (k1, 4, .inl (fun _ => 0))), (h50, .inl (k2, 400, .inl (upd (upd (fun _ => 0) 200 (((w0 >>> ((32 : Int32).toInt64 &&& 63)) &&& 65535).toInt32)) 201 (((w0 >>> ((16 : Int32).toInt64 &&& 63)) &&& 65535).toInt32))))] := hD_277
          clear hP_269 hD_269 hS_269
          refine lv_iinc (v := 2) (lv' := [(6, .int 2), (5, .int 0), (0, .ref h0), (1, .int 2), (2, .int 3), (3, .long w0)]) hx hb dX12_put__102 hl_270 (k := 0) rfl (by decide) (by decide) rfl (fun ls_278 hl_278 => ?_)
          clear hl_270
          refine lv_goto (tgt := 65) hx hb dX12_put__105 (by decide) ?_
          refine lv_iload hx hb dX12_put__65 (lv_at hl_278 0 rfl) ?_
          refine lv_iload_n hx hb dX12_put__67 rfl (lv_at hl_278 4 rfl) ?_
          refine lv_icmp_ge (tgt := 108) hx hb dX12_put__68 (by decide) (fun c_ => absurd c_ (by decide)) (fun _ => ?_)
          refine lv_aload_n hx hb dX12_put__71 rfl (lv_at hl_278 2 rfl) ?_
          refine va_get (D := (dC, dI)) (ci := 15) (v := .ref h50) (C := RX12) (T := TX12) (N := 143) hx hb ht inX12 hown hK_3 hP_277 0 rfl rfl 70 (by decide) (ht _ tw_2210) (fun _ h9 => h9) rfl dX12_put__72 ?_
          refine lv_bipush (v := 100) hx hb dX12_put__75 (by decide) ?_
          refine lv_iload_n hx hb dX12_put__77 rfl (lv_at hl_278 3 rfl) ?_
          refine lv_imul hx hb dX12_put__78 ?_
          refine lv_topi (fun x_279 ex_279 => ?_)
          obtain rfl : x_279 = 200 := ex_279.trans (by decide)
          refine lv_iload hx hb dX12_put__79 (lv_at hl_278 1 rfl) ?_
          refine lv_iadd hx hb dX12_put__81 ?_
          refine lv_topi (fun x_280 ex_280 => ?_)
          obtain rfl : x_280 = 200 := ex_280.trans (by decide)
          refine lv_iload hx hb dX12_put__82 (lv_at hl_278 0 rfl) ?_
          refine lv_iadd hx hb dX12_put__84 ?_
          refine lv_topi (fun x_281 ex_281 => ?_)
          obtain rfl : x_281 = 202 := ex_281.trans (by decide)
          refine lv_lload_n hx hb dX12_put__85 rfl (lv_at hl_278 5 rfl) ?_
          refine lv_bipush (v := 16) hx hb dX12_put__86 (by decide) ?_
          refine lv_iload_n hx hb dX12_put__88 rfl (lv_at hl_278 4 rfl) ?_
          refine lv_iconst (v := 1) hx hb dX12_put__89 (by decide) ?_
          refine lv_isub hx hb dX12_put__90 ?_
          refine lv_topi (fun x_282 ex_282 => ?_)
          obtain rfl : x_282 = 2 := ex_282.trans (by decide)
          refine lv_iload hx hb dX12_put__91 (lv_at hl_278 0 rfl) ?_
          refine lv_isub hx hb dX12_put__93 ?_
          refine lv_topi (fun x_283 ex_283 => ?_)
          obtain rfl : x_283 = 0 := ex_283.trans (by decide)
          refine lv_imul hx hb dX12_put__94 ?_
          refine lv_topi (fun x_284 ex_284 => ?_)
          obtain rfl : x_284 = 0 := ex_284.trans (by decide)
          refine lv_lshr (v := (w0 >>> ((0 : Int32).toInt64 &&& 63))) hx hb dX12_put__95 rfl ?_
          refine lv_ldc2 hx hb hown (ht _ tw_2813) dX12_put__96 ?_
          refine lv_land hx hb dX12_put__99 ?_
          refine lv_l2i (v := ((w0 >>> ((0 : Int32).toInt64 &&& 63)) &&& 65535).toInt32) hx hb dX12_put__100 rfl ?_
          refine va_iast hx hb hK_3 hP_277 hD_277 hS_277 3 2 rfl rfl (i := 202) (vpi (by decide)) dX12_put__101 (fun H_285 locs_285 hP_285 hD_285 hS_285 => ?_)
          have hP_285 : va_P (dC, dI) vwCl [(h0, .inr (15, [.int 0, .int 0, .ref h1, .int 0, .int (-1), .ref h2, .ref h3, .ref h4, .ref h5, .ref h6, .ref h7, .ref h8, .ref h9, .ref h10, .ref h11, .ref h12, .ref h13, .ref h14, .ref h15, .ref h16, .ref h17, .ref h18, .ref h19, .ref h20, .ref h21, .ref h22, .ref h23, .ref h24, .ref h25, .ref h26, .ref h27, .int 0, .ref h28, .ref h29, .int 0, .int 0, .int 0, .int 0, .int 0, .int 0, .ref h30, .int 0, .ref h31, .ref h32, .ref h33, .ref h34, .ref h35, .ref h36, .ref h37, .ref h38, .int 0, .int 0, .int 0, .int 0, .ref h39, .ref h40, .ref h41, .int 0, .ref h42, .int 0, .ref h43, .int 0, .int 0, .ref h44, .ref h45, .ref h46, .int 0, .ref h47, .ref h48, .ref h49, .ref h50, .ref h51, .ref h52, .ref h53, .int 0, .ref h54, .int 0, .ref h55, .ref h56, .ref h57, .int 0, .ref h58, .ref h59, .ref h60, .ref h61, .int 0, .ref h62, .ref h63, .ref h64, .ref h65, .int 0, .int 0, .int 0, .int 0, .int 0, .int 0, .int 0, .int 0, .int 0, .ref h66, .int 0, .ref h67, .int 0, .int 0, .int 0, .int 0, .int 0, .ref h68, .int 0, .int 0, .ref h69, .int 0, .ref h70, .int 0, .ref h71, .ref h72, .int 0, .ref h73, .ref h74, .ref h75, .ref h76, .long 0, .int 0, .ref h77, .ref h78, .ref h79, .ref h80, .ref h81, .ref h82, .ref h83, .ref h84, .ref h85, .ref h86, .ref h87, .ref h88, .ref h89, .ref h90, .ref h91, .int 0, .ref h92, .ref h93, .ref h94, .int 0])), (h48, .inl (k0, 4, .inl (fun _ => 0))), (h49, .inl (k1, 4, .inl (fun _ => 0))), (h50, .inl (k2, 400, .inl (upd (upd (upd (fun _ => 0) 200 (((w0 >>> ((32 : Int32).toInt64 &&& 63)) &&& 65535).toInt32)) 201 (((w0 >>> ((16 : Int32).toInt64 &&& 63)) &&& 65535).toInt32)) 202 (((w0 >>> ((0 : Int32).toInt64 &&& 63)) &&& 65535).toInt32))))] H_285 := hP_285
          have hD_285 : va_D A [(h0, .inr (15, [.int 0, .int 0, .ref h1, .int 0, .int (-1), .ref h2, .ref h3, .ref h4, .ref h5, .ref h6, .ref h7, .ref h8, .ref h9, .ref h10, .ref h11, .ref h12, .ref h13, .ref h14, .ref h15, .ref h16, .ref h17, .ref h18, .ref h19, .ref h20, .ref h21, .ref h22, .ref h23, .ref h24, .ref h25, .ref h26, .ref h27, .int 0, .ref h28, .ref h29, .int 0, .int 0, .int 0, .int 0, .int 0, .int 0, .ref h30, .int 0, .ref h31, .ref h32, .ref h33, .ref h34, .ref h35, .ref h36, .ref h37, .ref h38, .int 0, .int 0, .int 0, .int 0, .ref h39, .ref h40, .ref h41, .int 0, .ref h42, .int 0, .ref h43, .int 0, .int 0, .ref h44, .ref h45, .ref h46, .int 0, .ref h47, .ref h48, .ref h49, .ref h50, .ref h51, .ref h52, .ref h53, .int 0, .ref h54, .int 0, .ref h55, .ref h56, .ref h57, .int 0, .ref h58, .ref h59, .ref h60, .ref h61, .int 0, .ref h62, .ref h63, .ref h64, .ref h65, .int 0, .int 0, .int 0, .int 0, .int 0, .int 0, .int 0, .int 0, .int 0, .ref h66, .int 0, .ref h67, .int 0, .int 0, .int 0, .int 0, .int 0, .ref h68, .int 0, .int 0, .ref h69, .int 0, .ref h70, .int 0, .ref h71, .ref h72, .int 0, .ref h73, .ref h74, .ref h75, .ref h76, .long 0, .int 0, .ref h77, .ref h78, .ref h79, .ref h80, .ref h81, .ref h82, .ref h83, .ref h84, .ref h85, .ref h86, .ref h87, .ref h88, .ref h89, .ref h90, .ref h91, .int 0, .ref h92, .ref h93, .ref h94, .int 0])), (h48, .inl (k0, 4, .inl (fun _ => 0))), (h49, .inl (k1, 4, .inl (fun _ => 0))), (h50, .inl (k2, 400, .inl (upd (upd (upd (fun _ => 0) 200 (((w0 >>> ((32 : Int32).toInt64 &&& 63)) &&& 65535).toInt32)) 201 (((w0 >>> ((16 : Int32).toInt64 &&& 63)) &&& 65535).toInt32)) 202 (((w0 >>> ((0 : Int32).toInt64 &&& 63)) &&& 65535).toInt32))))] := hD_285
          clear hP_277 hD_277 hS_277
          refine lv_iinc (v := 3) (lv' := [(6, .int 3), (5, .int 0), (0, .ref h0), (1, .int 2), (2, .int 3), (3, .long w0)]) hx hb dX12_put__102 hl_278 (k := 0) rfl (by decide) (by decide) rfl (fun ls_286 hl_286 => ?_)
          clear hl_278
          refine lv_goto (tgt := 65) hx hb dX12_put__105 (by decide) ?_
          refine lv_iload hx hb dX12_put__65 (lv_at hl_286 0 rfl) ?_
          refine lv_iload_n hx hb dX12_put__67 rfl (lv_at hl_286 4 rfl) ?_
          refine lv_icmp_ge (tgt := 108) hx hb dX12_put__68 (by decide) (fun _ => ?_) (fun c_ => absurd (by decide) c_)
          refine lv_aload_n hx hb dX12_put__108 rfl (lv_at hl_286 2 rfl) ?_
          refine va_get (D := (dC, dI)) (ci := 15) (v := .ref h48) (C := RX12) (T := TX12) (N := 143) hx hb ht inX12 hown hK_3 hP_285 0 rfl rfl 68 (by decide) (ht _ tw_2208) (fun _ h9 => h9) rfl dX12_put__109 ?_
          refine lv_iload_n hx hb dX12_put__112 rfl (lv_at hl_286 3 rfl) ?_
          refine lv_iconst (v := 1) hx hb dX12_put__113 (by decide) ?_
          refine va_zast hx hb hK_3 hP_285 hD_285 hS_285 1 0 rfl rfl (i := 2) (vpi (by decide)) dX12_put__114 (fun H_287 locs_287 hP_287 hD_287 hS_287 => ?_)
          have hP_287 : va_P (dC, dI) vwCl [(h0, .inr (15, [.int 0, .int 0, .ref h1, .int 0, .int (-1), .ref h2, .ref h3, .ref h4, .ref h5, .ref h6, .ref h7, .ref h8, .ref h9, .ref h10, .ref h11, .ref h12, .ref h13, .ref h14, .ref h15, .ref h16, .ref h17, .ref h18, .ref h19, .ref h20, .ref h21, .ref h22, .ref h23, .ref h24, .ref h25, .ref h26, .ref h27, .int 0, .ref h28, .ref h29, .int 0, .int 0, .int 0, .int 0, .int 0, .int 0, .ref h30, .int 0, .ref h31, .ref h32, .ref h33, .ref h34, .ref h35, .ref h36, .ref h37, .ref h38, .int 0, .int 0, .int 0, .int 0, .ref h39, .ref h40, .ref h41, .int 0, .ref h42, .int 0, .ref h43, .int 0, .int 0, .ref h44, .ref h45, .ref h46, .int 0, .ref h47, .ref h48, .ref h49, .ref h50, .ref h51, .ref h52, .ref h53, .int 0, .ref h54, .int 0, .ref h55, .ref h56, .ref h57, .int 0, .ref h58, .ref h59, .ref h60, .ref h61, .int 0, .ref h62, .ref h63, .ref h64, .ref h65, .int 0, .int 0, .int 0, .int 0, .int 0, .int 0, .int 0, .int 0, .int 0, .ref h66, .int 0, .ref h67, .int 0, .int 0, .int 0, .int 0, .int 0, .ref h68, .int 0, .int 0, .ref h69, .int 0, .ref h70, .int 0, .ref h71, .ref h72, .int 0, .ref h73, .ref h74, .ref h75, .ref h76, .long 0, .int 0, .ref h77, .ref h78, .ref h79, .ref h80, .ref h81, .ref h82, .ref h83, .ref h84, .ref h85, .ref h86, .ref h87, .ref h88, .ref h89, .ref h90, .ref h91, .int 0, .ref h92, .ref h93, .ref h94, .int 0])), (h48, .inl (k0, 4, .inl (upd (fun _ => 0) 2 1))), (h49, .inl (k1, 4, .inl (fun _ => 0))), (h50, .inl (k2, 400, .inl (upd (upd (upd (fun _ => 0) 200 (((w0 >>> ((32 : Int32).toInt64 &&& 63)) &&& 65535).toInt32)) 201 (((w0 >>> ((16 : Int32).toInt64 &&& 63)) &&& 65535).toInt32)) 202 (((w0 >>> ((0 : Int32).toInt64 &&& 63)) &&& 65535).toInt32))))] H_287 := hP_287
          have hD_287 : va_D A [(h0, .inr (15, [.int 0, .int 0, .ref h1, .int 0, .int (-1), .ref h2, .ref h3, .ref h4, .ref h5, .ref h6, .ref h7, .ref h8, .ref h9, .ref h10, .ref h11, .ref h12, .ref h13, .ref h14, .ref h15, .ref h16, .ref h17, .ref h18, .ref h19, .ref h20, .ref h21, .ref h22, .ref h23, .ref h24, .ref h25, .ref h26, .ref h27, .int 0, .ref h28, .ref h29, .int 0, .int 0, .int 0, .int 0, .int 0, .int 0, .ref h30, .int 0, .ref h31, .ref h32, .ref h33, .ref h34, .ref h35, .ref h36, .ref h37, .ref h38, .int 0, .int 0, .int 0, .int 0, .ref h39, .ref h40, .ref h41, .int 0, .ref h42, .int 0, .ref h43, .int 0, .int 0, .ref h44, .ref h45, .ref h46, .int 0, .ref h47, .ref h48, .ref h49, .ref h50, .ref h51, .ref h52, .ref h53, .int 0, .ref h54, .int 0, .ref h55, .ref h56, .ref h57, .int 0, .ref h58, .ref h59, .ref h60, .ref h61, .int 0, .ref h62, .ref h63, .ref h64, .ref h65, .int 0, .int 0, .int 0, .int 0, .int 0, .int 0, .int 0, .int 0, .int 0, .ref h66, .int 0, .ref h67, .int 0, .int 0, .int 0, .int 0, .int 0, .ref h68, .int 0, .int 0, .ref h69, .int 0, .ref h70, .int 0, .ref h71, .ref h72, .int 0, .ref h73, .ref h74, .ref h75, .ref h76, .long 0, .int 0, .ref h77, .ref h78, .ref h79, .ref h80, .ref h81, .ref h82, .ref h83, .ref h84, .ref h85, .ref h86, .ref h87, .ref h88, .ref h89, .ref h90, .ref h91, .int 0, .ref h92, .ref h93, .ref h94, .int 0])), (h48, .inl (k0, 4, .inl (upd (fun _ => 0) 2 1))), (h49, .inl (k1, 4, .inl (fun _ => 0))), (h50, .inl (k2, 400, .inl (upd (upd (upd (fun _ => 0) 200 (((w0 >>> ((32 : Int32).toInt64 &&& 63)) &&& 65535).toInt32)) 201 (((w0 >>> ((16 : Int32).toInt64 &&& 63)) &&& 65535).toInt32)) 202 (((w0 >>> ((0 : Int32).toInt64 &&& 63)) &&& 65535).toInt32))))] := hD_287
          clear hP_285 hD_285 hS_285
          refine lv_aload_n hx hb dX12_put__115 rfl (lv_at hl_286 2 rfl) ?_
          refine va_get (D := (dC, dI)) (ci := 15) (v := .ref h49) (C := RX12) (T := TX12) (N := 143) hx hb ht inX12 hown hK_3 hP_287 0 rfl rfl 69 (by decide) (ht _ tw_2209) (fun _ h9 => h9) rfl dX12_put__116 ?_
          refine lv_iload_n hx hb dX12_put__119 rfl (lv_at hl_286 3 rfl) ?_
          refine lv_iload hx hb dX12_put__120 (lv_at hl_286 1 rfl) ?_
          refine lv_iload_n hx hb dX12_put__122 rfl (lv_at hl_286 4 rfl) ?_
          refine lv_iadd hx hb dX12_put__123 ?_
          refine lv_topi (fun x_288 ex_288 => ?_)
          obtain rfl : x_288 = 3 := ex_288.trans (by decide)
          refine va_iast hx hb hK_3 hP_287 hD_287 hS_287 2 1 rfl rfl (i := 2) (vpi (by decide)) dX12_put__124 (fun H_289 locs_289 hP_289 hD_289 hS_289 => ?_)
          have hP_289 : va_P (dC, dI) vwCl [(h0, .inr (15, [.int 0, .int 0, .ref h1, .int 0, .int (-1), .ref h2, .ref h3, .ref h4, .ref h5, .ref h6, .ref h7, .ref h8, .ref h9, .ref h10, .ref h11, .ref h12, .ref h13, .ref h14, .ref h15, .ref h16, .ref h17, .ref h18, .ref h19, .ref h20, .ref h21, .ref h22, .ref h23, .ref h24, .ref h25, .ref h26, .ref h27, .int 0, .ref h28, .ref h29, .int 0, .int 0, .int 0, .int 0, .int 0, .int 0, .ref h30, .int 0, .ref h31, .ref h32, .ref h33, .ref h34, .ref h35, .ref h36, .ref h37, .ref h38, .int 0, .int 0, .int 0, .int 0, .ref h39, .ref h40, .ref h41, .int 0, .ref h42, .int 0, .ref h43, .int 0, .int 0, .ref h44, .ref h45, .ref h46, .int 0, .ref h47, .ref h48, .ref h49, .ref h50, .ref h51, .ref h52, .ref h53, .int 0, .ref h54, .int 0, .ref h55, .ref h56, .ref h57, .int 0, .ref h58, .ref h59, .ref h60, .ref h61, .int 0, .ref h62, .ref h63, .ref h64, .ref h65, .int 0, .int 0, .int 0, .int 0, .int 0, .int 0, .int 0, .int 0, .int 0, .ref h66, .int 0, .ref h67, .int 0, .int 0, .int 0, .int 0, .int 0, .ref h68, .int 0, .int 0, .ref h69, .int 0, .ref h70, .int 0, .ref h71, .ref h72, .int 0, .ref h73, .ref h74, .ref h75, .ref h76, .long 0, .int 0, .ref h77, .ref h78, .ref h79, .ref h80, .ref h81, .ref h82, .ref h83, .ref h84, .ref h85, .ref h86, .ref h87, .ref h88, .ref h89, .ref h90, .ref h91, .int 0, .ref h92, .ref h93, .ref h94, .int 0])), (h48, .inl (k0, 4, .inl (upd (fun _ => 0) 2 1))), (h49, .inl (k1, 4, .inl (upd (fun _ => 0) 2 3))), (h50, .inl (k2, 400, .inl (upd (upd (upd (fun _ => 0) 200 (((w0 >>> ((32 : Int32).toInt64 &&& 63)) &&& 65535).toInt32)) 201 (((w0 >>> ((16 : Int32).toInt64 &&& 63)) &&& 65535).toInt32)) 202 (((w0 >>> ((0 : Int32).toInt64 &&& 63)) &&& 65535).toInt32))))] H_289 := hP_289
          have hD_289 : va_D A [(h0, .inr (15, [.int 0, .int 0, .ref h1, .int 0, .int (-1), .ref h2, .ref h3, .ref h4, .ref h5, .ref h6, .ref h7, .ref h8, .ref h9, .ref h10, .ref h11, .ref h12, .ref h13, .ref h14, .ref h15, .ref h16, .ref h17, .ref h18, .ref h19, .ref h20, .ref h21, .ref h22, .ref h23, .ref h24, .ref h25, .ref h26, .ref h27, .int 0, .ref h28, .ref h29, .int 0, .int 0, .int 0, .int 0, .int 0, .int 0, .ref h30, .int 0, .ref h31, .ref h32, .ref h33, .ref h34, .ref h35, .ref h36, .ref h37, .ref h38, .int 0, .int 0, .int 0, .int 0, .ref h39, .ref h40, .ref h41, .int 0, .ref h42, .int 0, .ref h43, .int 0, .int 0, .ref h44, .ref h45, .ref h46, .int 0, .ref h47, .ref h48, .ref h49, .ref h50, .ref h51, .ref h52, .ref h53, .int 0, .ref h54, .int 0, .ref h55, .ref h56, .ref h57, .int 0, .ref h58, .ref h59, .ref h60, .ref h61, .int 0, .ref h62, .ref h63, .ref h64, .ref h65, .int 0, .int 0, .int 0, .int 0, .int 0, .int 0, .int 0, .int 0, .int 0, .ref h66, .int 0, .ref h67, .int 0, .int 0, .int 0, .int 0, .int 0, .ref h68, .int 0, .int 0, .ref h69, .int 0, .ref h70, .int 0, .ref h71, .ref h72, .int 0, .ref h73, .ref h74, .ref h75, .ref h76, .long 0, .int 0, .ref h77, .ref h78, .ref h79, .ref h80, .ref h81, .ref h82, .ref h83, .ref h84, .ref h85, .ref h86, .ref h87, .ref h88, .ref h89, .ref h90, .ref h91, .int 0, .ref h92, .ref h93, .ref h94, .int 0])), (h48, .inl (k0, 4, .inl (upd (fun _ => 0) 2 1))), (h49, .inl (k1, 4, .inl (upd (fun _ => 0) 2 3))), (h50, .inl (k2, 400, .inl (upd (upd (upd (fun _ => 0) 200 (((w0 >>> ((32 : Int32).toInt64 &&& 63)) &&& 65535).toInt32)) 201 (((w0 >>> ((16 : Int32).toInt64 &&& 63)) &&& 65535).toInt32)) 202 (((w0 >>> ((0 : Int32).toInt64 &&& 63)) &&& 65535).toInt32))))] := hD_289
          clear hP_287 hD_287 hS_287
          refine lv_aload_n hx hb dX12_put__125 rfl (lv_at hl_286 2 rfl) ?_
          refine lv_aload_n hx hb dX12_put__126 rfl (lv_at hl_286 2 rfl) ?_
          refine va_get (D := (dC, dI)) (ci := 15) (v := .int 0) (C := RX12) (T := TX12) (N := 143) hx hb ht inX12 hown hK_3 hP_289 0 rfl rfl 102 (by decide) (ht _ tw_2242) (fun _ h9 => h9) rfl dX12_put__127 ?_
          refine lv_if_eq (tgt := 145) hx hb dX12_put__130 (by decide) (fun _ => ?_) (fun c_ => absurd (by decide) c_)
          refine lv_iconst (v := 0) hx hb dX12_put__145 (by decide) ?_
          refine va_put (D := (dC, dI)) (ci := 15) (v := .int 0) (ty := .boolean) (C := RX12) (T := TX12) (N := 143) hx hb ht inX12 tyX12 tyX12_ok nmX12 hown hK_3 hP_289 hD_289 hS_289 0 rfl rfl 102 (by decide) (ht _ tw_2242) (fun _ h9 => h9) rfl (by decide +kernel) rfl rfl (Nat.le_of_ble_eq_true rfl) dX12_put__146 (fun H_290 locs_290 hP_290 hD_290 hS_290 => ?_)
          have hP_290 : va_P (dC, dI) vwCl [(h0, .inr (15, [.int 0, .int 0, .ref h1, .int 0, .int (-1), .ref h2, .ref h3, .ref h4, .ref h5, .ref h6, .ref h7, .ref h8, .ref h9, .ref h10, .ref h11, .ref h12, .ref h13, .ref h14, .ref h15, .ref h16, .ref h17, .ref h18, .ref h19, .ref h20, .ref h21, .ref h22, .ref h23, .ref h24, .ref h25, .ref h26, .ref h27, .int 0, .ref h28, .ref h29, .int 0, .int 0, .int 0, .int 0, .int 0, .int 0, .ref h30, .int 0, .ref h31, .ref h32, .ref h33, .ref h34, .ref h35, .ref h36, .ref h37, .ref h38, .int 0, .int 0, .int 0, .int 0, .ref h39, .ref h40, .ref h41, .int 0, .ref h42, .int 0, .ref h43, .int 0, .int 0, .ref h44, .ref h45, .ref h46, .int 0, .ref h47, .ref h48, .ref h49, .ref h50, .ref h51, .ref h52, .ref h53, .int 0, .ref h54, .int 0, .ref h55, .ref h56, .ref h57, .int 0, .ref h58, .ref h59, .ref h60, .ref h61, .int 0, .ref h62, .ref h63, .ref h64, .ref h65, .int 0, .int 0, .int 0, .int 0, .int 0, .int 0, .int 0, .int 0, .int 0, .ref h66, .int 0, .ref h67, .int 0, .int 0, .int 0, .int 0, .int 0, .ref h68, .int 0, .int 0, .ref h69, .int 0, .ref h70, .int 0, .ref h71, .ref h72, .int 0, .ref h73, .ref h74, .ref h75, .ref h76, .long 0, .int 0, .ref h77, .ref h78, .ref h79, .ref h80, .ref h81, .ref h82, .ref h83, .ref h84, .ref h85, .ref h86, .ref h87, .ref h88, .ref h89, .ref h90, .ref h91, .int 0, .ref h92, .ref h93, .ref h94, .int 0])), (h48, .inl (k0, 4, .inl (upd (fun _ => 0) 2 1))), (h49, .inl (k1, 4, .inl (upd (fun _ => 0) 2 3))), (h50, .inl (k2, 400, .inl (upd (upd (upd (fun _ => 0) 200 (((w0 >>> ((32 : Int32).toInt64 &&& 63)) &&& 65535).toInt32)) 201 (((w0 >>> ((16 : Int32).toInt64 &&& 63)) &&& 65535).toInt32)) 202 (((w0 >>> ((0 : Int32).toInt64 &&& 63)) &&& 65535).toInt32))))] H_290 := hP_290
          have hD_290 : va_D A [(h0, .inr (15, [.int 0, .int 0, .ref h1, .int 0, .int (-1), .ref h2, .ref h3, .ref h4, .ref h5, .ref h6, .ref h7, .ref h8, .ref h9, .ref h10, .ref h11, .ref h12, .ref h13, .ref h14, .ref h15, .ref h16, .ref h17, .ref h18, .ref h19, .ref h20, .ref h21, .ref h22, .ref h23, .ref h24, .ref h25, .ref h26, .ref h27, .int 0, .ref h28, .ref h29, .int 0, .int 0, .int 0, .int 0, .int 0, .int 0, .ref h30, .int 0, .ref h31, .ref h32, .ref h33, .ref h34, .ref h35, .ref h36, .ref h37, .ref h38, .int 0, .int 0, .int 0, .int 0, .ref h39, .ref h40, .ref h41, .int 0, .ref h42, .int 0, .ref h43, .int 0, .int 0, .ref h44, .ref h45, .ref h46, .int 0, .ref h47, .ref h48, .ref h49, .ref h50, .ref h51, .ref h52, .ref h53, .int 0, .ref h54, .int 0, .ref h55, .ref h56, .ref h57, .int 0, .ref h58, .ref h59, .ref h60, .ref h61, .int 0, .ref h62, .ref h63, .ref h64, .ref h65, .int 0, .int 0, .int 0, .int 0, .int 0, .int 0, .int 0, .int 0, .int 0, .ref h66, .int 0, .ref h67, .int 0, .int 0, .int 0, .int 0, .int 0, .ref h68, .int 0, .int 0, .ref h69, .int 0, .ref h70, .int 0, .ref h71, .ref h72, .int 0, .ref h73, .ref h74, .ref h75, .ref h76, .long 0, .int 0, .ref h77, .ref h78, .ref h79, .ref h80, .ref h81, .ref h82, .ref h83, .ref h84, .ref h85, .ref h86, .ref h87, .ref h88, .ref h89, .ref h90, .ref h91, .int 0, .ref h92, .ref h93, .ref h94, .int 0])), (h48, .inl (k0, 4, .inl (upd (fun _ => 0) 2 1))), (h49, .inl (k1, 4, .inl (upd (fun _ => 0) 2 3))), (h50, .inl (k2, 400, .inl (upd (upd (upd (fun _ => 0) 200 (((w0 >>> ((32 : Int32).toInt64 &&& 63)) &&& 65535).toInt32)) 201 (((w0 >>> ((16 : Int32).toInt64 &&& 63)) &&& 65535).toInt32)) 202 (((w0 >>> ((0 : Int32).toInt64 &&& 63)) &&& 65535).toInt32))))] := hD_290
          clear hP_289 hD_289 hS_289
          refine lv_iload hx hb dX12_put__149 (lv_at hl_286 1 rfl) ?_
          refine lv_iload_n hx hb dX12_put__151 rfl (lv_at hl_286 4 rfl) ?_
          refine lv_iadd hx hb dX12_put__152 ?_
          refine lv_topi (fun x_291 ex_291 => ?_)
          obtain rfl : x_291 = 3 := ex_291.trans (by decide)
          have hP9 := hP_290.sub (ws' := []) [] rfl
          have hD9 := hD_290.sub (ws' := []) [] (by decide) rfl
          have hK9 := hK_3.sub (tys' := []) [] rfl
          refine W.widen (k := 0) (n := 0) (by decide) (by decide) ?_
          exact W.iret (v := 3) hx hb hr (fun t9 ht9 hW9 => ⟨⟨3, 4, rfl, (Or.inr (Or.inr (Or.inr (Or.inr ⟨rfl, rfl, cc_2_0, cc_2_1, cc_3_0, cc_3_1⟩)))), ⟨by rw [ht9]; exact hP9, va_K.moved hW9.alike hK9, hD9⟩⟩, hS_290.F ht9⟩) hS_290.2.2 dX12_put__153
        · refine va_zald hx hb hK_3 hP_3 1 0 rfl rfl (i := 3) (vpi (by decide)) dX12_put__34 ?_
          refine W.eq (g2 := F0 m 35 ls [.int 0]) rfl ?_
          refine lv_if_eq (tgt := 47) hx hb dX12_put__35 (by decide) (fun _ => ?_) (fun c_ => absurd (by decide) c_)
          refine lv_iconst (v := 0) hx hb dX12_put__47 (by decide) ?_
          refine lv_istore (lv' := [(5, .int 0), (0, .ref h0), (1, .int 3), (2, .int 3), (3, .long w0)]) hx hb dX12_put__48 hl (by decide) rfl (fun ls_292 hl_292 => ?_)
          clear hl
          refine lv_iload hx hb dX12_put__50 (lv_at hl_292 0 rfl) ?_
          refine lv_iload_n hx hb dX12_put__52 rfl (lv_at hl_292 3 rfl) ?_
          refine lv_iadd hx hb dX12_put__53 ?_
          refine lv_topi (fun x_293 ex_293 => ?_)
          obtain rfl : x_293 = 3 := ex_293.trans (by decide)
          refine lv_bipush (v := 100) hx hb dX12_put__54 (by decide) ?_
          refine lv_icmp_le (tgt := 62) hx hb dX12_put__56 (by decide) (fun _ => ?_) (fun c_ => absurd (by decide) c_)
          refine lv_iconst (v := 0) hx hb dX12_put__62 (by decide) ?_
          refine lv_istore (lv' := [(6, .int 0), (5, .int 0), (0, .ref h0), (1, .int 3), (2, .int 3), (3, .long w0)]) hx hb dX12_put__63 hl_292 (by decide) rfl (fun ls_294 hl_294 => ?_)
          clear hl_292
          refine lv_iload hx hb dX12_put__65 (lv_at hl_294 0 rfl) ?_
          refine lv_iload_n hx hb dX12_put__67 rfl (lv_at hl_294 4 rfl) ?_
          refine lv_icmp_ge (tgt := 108) hx hb dX12_put__68 (by decide) (fun c_ => absurd c_ (by decide)) (fun _ => ?_)
          refine lv_aload_n hx hb dX12_put__71 rfl (lv_at hl_294 2 rfl) ?_
          refine va_get (D := (dC, dI)) (ci := 15) (v := .ref h50) (C := RX12) (T := TX12) (N := 143) hx hb ht inX12 hown hK_3 hP_3 0 rfl rfl 70 (by decide) (ht _ tw_2210) (fun _ h9 => h9) rfl dX12_put__72 ?_
          refine lv_bipush (v := 100) hx hb dX12_put__75 (by decide) ?_
          refine lv_iload_n hx hb dX12_put__77 rfl (lv_at hl_294 3 rfl) ?_
          refine lv_imul hx hb dX12_put__78 ?_
          refine lv_topi (fun x_295 ex_295 => ?_)
          obtain rfl : x_295 = 300 := ex_295.trans (by decide)
          refine lv_iload hx hb dX12_put__79 (lv_at hl_294 1 rfl) ?_
          refine lv_iadd hx hb dX12_put__81 ?_
          refine lv_topi (fun x_296 ex_296 => ?_)
          obtain rfl : x_296 = 300 := ex_296.trans (by decide)
          refine lv_iload hx hb dX12_put__82 (lv_at hl_294 0 rfl) ?_
          refine lv_iadd hx hb dX12_put__84 ?_
          refine lv_topi (fun x_297 ex_297 => ?_)
          obtain rfl : x_297 = 300 := ex_297.trans (by decide)
          refine lv_lload_n hx hb dX12_put__85 rfl (lv_at hl_294 5 rfl) ?_
          refine lv_bipush (v := 16) hx hb dX12_put__86 (by decide) ?_
          refine lv_iload_n hx hb dX12_put__88 rfl (lv_at hl_294 4 rfl) ?_
          refine lv_iconst (v := 1) hx hb dX12_put__89 (by decide) ?_
          refine lv_isub hx hb dX12_put__90 ?_
          refine lv_topi (fun x_298 ex_298 => ?_)
          obtain rfl : x_298 = 2 := ex_298.trans (by decide)
          refine lv_iload hx hb dX12_put__91 (lv_at hl_294 0 rfl) ?_
          refine lv_isub hx hb dX12_put__93 ?_
          refine lv_topi (fun x_299 ex_299 => ?_)
          obtain rfl : x_299 = 2 := ex_299.trans (by decide)
          refine lv_imul hx hb dX12_put__94 ?_
          refine lv_topi (fun x_300 ex_300 => ?_)
          obtain rfl : x_300 = 32 := ex_300.trans (by decide)
          refine lv_lshr (v := (w0 >>> ((32 : Int32).toInt64 &&& 63))) hx hb dX12_put__95 rfl ?_
          refine lv_ldc2 hx hb hown (ht _ tw_2813) dX12_put__96 ?_
          refine lv_land hx hb dX12_put__99 ?_
          refine lv_l2i (v := ((w0 >>> ((32 : Int32).toInt64 &&& 63)) &&& 65535).toInt32) hx hb dX12_put__100 rfl ?_
          refine va_iast hx hb hK_3 hP_3 hD_3 hS_3 3 2 rfl rfl (i := 300) (vpi (by decide)) dX12_put__101 (fun H_301 locs_301 hP_301 hD_301 hS_301 => ?_)
          have hP_301 : va_P (dC, dI) vwCl [(h0, .inr (15, [.int 0, .int 0, .ref h1, .int 0, .int (-1), .ref h2, .ref h3, .ref h4, .ref h5, .ref h6, .ref h7, .ref h8, .ref h9, .ref h10, .ref h11, .ref h12, .ref h13, .ref h14, .ref h15, .ref h16, .ref h17, .ref h18, .ref h19, .ref h20, .ref h21, .ref h22, .ref h23, .ref h24, .ref h25, .ref h26, .ref h27, .int 0, .ref h28, .ref h29, .int 0, .int 0, .int 0, .int 0, .int 0, .int 0, .ref h30, .int 0, .ref h31, .ref h32, .ref h33, .ref h34, .ref h35, .ref h36, .ref h37, .ref h38, .int 0, .int 0, .int 0, .int 0, .ref h39, .ref h40, .ref h41, .int 0, .ref h42, .int 0, .ref h43, .int 0, .int 0, .ref h44, .ref h45, .ref h46, .int 0, .ref h47, .ref h48, .ref h49, .ref h50, .ref h51, .ref h52, .ref h53, .int 0, .ref h54, .int 0, .ref h55, .ref h56, .ref h57, .int 0, .ref h58, .ref h59, .ref h60, .ref h61, .int 0, .ref h62, .ref h63, .ref h64, .ref h65, .int 0, .int 0, .int 0, .int 0, .int 0, .int 0, .int 0, .int 0, .int 0, .ref h66, .int 0, .ref h67, .int 0, .int 0, .int 0, .int 0, .int 0, .ref h68, .int 0, .int 0, .ref h69, .int 0, .ref h70, .int 0, .ref h71, .ref h72, .int 0, .ref h73, .ref h74, .ref h75, .ref h76, .long 0, .int 0, .ref h77, .ref h78, .ref h79, .ref h80, .ref h81, .ref h82, .ref h83, .ref h84, .ref h85, .ref h86, .ref h87, .ref h88, .ref h89, .ref h90, .ref h91, .int 0, .ref h92, .ref h93, .ref h94, .int 0])), (h48, .inl (k0, 4, .inl (fun _ => 0))), (h49, .inl (k1, 4, .inl (fun _ => 0))), (h50, .inl (k2, 400, .inl (upd (fun _ => 0) 300 (((w0 >>> ((32 : Int32).toInt64 &&& 63)) &&& 65535).toInt32))))] H_301 := hP_301
          have hD_301 : va_D A [(h0, .inr (15, [.int 0, .int 0, .ref h1, .int 0, .int (-1), .ref h2, .ref h3, .ref h4, .ref h5, .ref h6, .ref h7, .ref h8, .ref h9, .ref h10, .ref h11, .ref h12, .ref h13, .ref h14, .ref h15, .ref h16, .ref h17, .ref h18, .ref h19, .ref h20, .ref h21, .ref h22, .ref h23, .ref h24, .ref h25, .ref h26, .ref h27, .int 0, .ref h28, .ref h29, .int 0, .int 0, .int 0, .int 0, .int 0, .int 0, .ref h30, .int 0, .ref h31, .ref h32, .ref h33, .ref h34, .ref h35, .ref h36, .ref h37, .ref h38, .int 0, .int 0, .int 0, .int 0, .ref h39, .ref h40, .ref h41, .int 0, .ref h42, .int 0, .ref h43, .int 0, .int 0, .ref h44, .ref h45, .ref h46, .int 0, .ref h47, .ref h48, .ref h49, .ref h50, .ref h51, .ref h52, .ref h53, .int 0, .ref h54, .int 0, .ref h55, .ref h56, .ref h57, .int 0, .ref h58, .ref h59, .ref h60, .ref h61, .int 0, .ref h62, .ref h63, .ref h64, .ref h65, .int 0, .int 0, .int 0, .int 0, .int 0, .int 0, .int 0, .int 0, .int 0, .ref h66, .int 0, .ref h67, .int 0, .int 0, .int 0, .int 0, .int 0, .ref h68, .int 0, .int 0, .ref h69, .int 0, .ref h70, .int 0, .ref h71, .ref h72, .int 0, .ref h73, .ref h74, .ref h75, .ref h76, .long 0, .int 0, .ref h77, .ref h78, .ref h79, .ref h80, .ref h81, .ref h82, .ref h83, .ref h84, .ref h85, .ref h86, .ref h87, .ref h88, .ref h89, .ref h90, .ref h91, .int 0, .ref h92, .ref h93, .ref h94, .int 0])), (h48, .inl (k0, 4, .inl (fun _ => 0))), (h49, .inl (k1, 4, .inl (fun _ => 0))), (h50, .inl (k2, 400, .inl (upd (fun _ => 0) 300 (((w0 >>> ((32 : Int32).toInt64 &&& 63)) &&& 65535).toInt32))))] := hD_301
          clear hP_3 hD_3 hS_3
          refine lv_iinc (v := 1) (lv' := [(6, .int 1), (5, .int 0), (0, .ref h0), (1, .int 3), (2, .int 3), (3, .long w0)]) hx hb dX12_put__102 hl_294 (k := 0) rfl (by decide) (by decide) rfl (fun ls_302 hl_302 => ?_)
          clear hl_294
          refine lv_goto (tgt := 65) hx hb dX12_put__105 (by decide) ?_
          refine lv_iload hx hb dX12_put__65 (lv_at hl_302 0 rfl) ?_
          refine lv_iload_n hx hb dX12_put__67 rfl (lv_at hl_302 4 rfl) ?_
          refine lv_icmp_ge (tgt := 108) hx hb dX12_put__68 (by decide) (fun c_ => absurd c_ (by decide)) (fun _ => ?_)
          refine lv_aload_n hx hb dX12_put__71 rfl (lv_at hl_302 2 rfl) ?_
          refine va_get (D := (dC, dI)) (ci := 15) (v := .ref h50) (C := RX12) (T := TX12) (N := 143) hx hb ht inX12 hown hK_3 hP_301 0 rfl rfl 70 (by decide) (ht _ tw_2210) (fun _ h9 => h9) rfl dX12_put__72 ?_
          refine lv_bipush (v := 100) hx hb dX12_put__75 (by decide) ?_
          refine lv_iload_n hx hb dX12_put__77 rfl (lv_at hl_302 3 rfl) ?_
          refine lv_imul hx hb dX12_put__78 ?_
          refine lv_topi (fun x_303 ex_303 => ?_)
          obtain rfl : x_303 = 300 := ex_303.trans (by decide)
          refine lv_iload hx hb dX12_put__79 (lv_at hl_302 1 rfl) ?_
          refine lv_iadd hx hb dX12_put__81 ?_
          refine lv_topi (fun x_304 ex_304 => ?_)
          obtain rfl : x_304 = 300 := ex_304.trans (by decide)
          refine lv_iload hx hb dX12_put__82 (lv_at hl_302 0 rfl) ?_
          refine lv_iadd hx hb dX12_put__84 ?_
          refine lv_topi (fun x_305 ex_305 => ?_)
          obtain rfl : x_305 = 301 := ex_305.trans (by decide)
          refine lv_lload_n hx hb dX12_put__85 rfl (lv_at hl_302 5 rfl) ?_
          refine lv_bipush (v := 16) hx hb dX12_put__86 (by decide) ?_
          refine lv_iload_n hx hb dX12_put__88 rfl (lv_at hl_302 4 rfl) ?_
          refine lv_iconst (v := 1) hx hb dX12_put__89 (by decide) ?_
          refine lv_isub hx hb dX12_put__90 ?_
          refine lv_topi (fun x_306 ex_306 => ?_)
          obtain rfl : x_306 = 2 := ex_306.trans (by decide)
          refine lv_iload hx hb dX12_put__91 (lv_at hl_302 0 rfl) ?_
          refine lv_isub hx hb dX12_put__93 ?_
          refine lv_topi (fun x_307 ex_307 => ?_)
          obtain rfl : x_307 = 1 := ex_307.trans (by decide)
          refine lv_imul hx hb dX12_put__94 ?_
          refine lv_topi (fun x_308 ex_308 => ?_)
          obtain rfl : x_308 = 16 := ex_308.trans (by decide)
          refine lv_lshr (v := (w0 >>> ((16 : Int32).toInt64 &&& 63))) hx hb dX12_put__95 rfl ?_
          refine lv_ldc2 hx hb hown (ht _ tw_2813) dX12_put__96 ?_
          refine lv_land hx hb dX12_put__99 ?_
          refine lv_l2i (v := ((w0 >>> ((16 : Int32).toInt64 &&& 63)) &&& 65535).toInt32) hx hb dX12_put__100 rfl ?_
          refine va_iast hx hb hK_3 hP_301 hD_301 hS_301 3 2 rfl rfl (i := 301) (vpi (by decide)) dX12_put__101 (fun H_309 locs_309 hP_309 hD_309 hS_309 => ?_)
          have hP_309 : va_P (dC, dI) vwCl [(h0, .inr (15, [.int 0, .int 0, .ref h1, .int 0, .int (-1), .ref h2, .ref h3, .ref h4, .ref h5, .ref h6, .ref h7, .ref h8, .ref h9, .ref h10, .ref h11, .ref h12, .ref h13, .ref h14, .ref h15, .ref h16, .ref h17, .ref h18, .ref h19, .ref h20, .ref h21, .ref h22, .ref h23, .ref h24, .ref h25, .ref h26, .ref h27, .int 0, .ref h28, .ref h29, .int 0, .int 0, .int 0, .int 0, .int 0, .int 0, .ref h30, .int 0, .ref h31, .ref h32, .ref h33, .ref h34, .ref h35, .ref h36, .ref h37, .ref h38, .int 0, .int 0, .int 0, .int 0, .ref h39, .ref h40, .ref h41, .int 0, .ref h42, .int 0, .ref h43, .int 0, .int 0, .ref h44, .ref h45, .ref h46, .int 0, .ref h47, .ref h48, .ref h49, .ref h50, .ref h51, .ref h52, .ref h53, .int 0, .ref h54, .int 0, .ref h55, .ref h56, .ref h57, .int 0, .ref h58, .ref h59, .ref h60, .ref h61, .int 0, .ref h62, .ref h63, .ref h64, .ref h65, .int 0, .int 0, .int 0, .int 0, .int 0, .int 0, .int 0, .int 0, .int 0, .ref h66, .int 0, .ref h67, .int 0, .int 0, .int 0, .int 0, .int 0, .ref h68, .int 0, .int 0, .ref h69, .int 0, .ref h70, .int 0, .ref h71, .ref h72, .int 0, .ref h73, .ref h74, .ref h75, .ref h76, .long 0, .int 0, .ref h77, .ref h78, .ref h79, .ref h80, .ref h81, .ref h82, .ref h83, .ref h84, .ref h85, .ref h86, .ref h87, .ref h88, .ref h89, .ref h90, .ref h91, .int 0, .ref h92, .ref h93, .ref h94, .int 0])), (h48, .inl (k0, 4, .inl (fun _ => 0))), (h49, .inl (k1, 4, .inl (fun _ => 0))), (h50, .inl (k2, 400, .inl (upd (upd (fun _ => 0) 300 (((w0 >>> ((32 : Int32).toInt64 &&& 63)) &&& 65535).toInt32)) 301 (((w0 >>> ((16 : Int32).toInt64 &&& 63)) &&& 65535).toInt32))))] H_309 := hP_309
          have hD_309 : va_D A [(h0, .inr (15, [.int 0, .int 0, .ref h1, .int 0, .int (-1), .ref h2, .ref h3, .ref h4, .ref h5, .ref h6, .ref h7, .ref h8, .ref h9, .ref h10, .ref h11, .ref h12, .ref h13, .ref h14, .ref h15, .ref h16, .ref h17, .ref h18, .ref h19, .ref h20, .ref h21, .ref h22, .ref h23, .ref h24, .ref h25, .ref h26, .ref h27, .int 0, .ref h28, .ref h29, .int 0, .int 0, .int 0, .int 0, .int 0, .int 0, .ref h30, .int 0, .ref h31, .ref h32, .ref h33, .ref h34, .ref h35, .ref h36, .ref h37, .ref h38, .int 0, .int 0, .int 0, .int 0, .ref h39, .ref h40, .ref h41, .int 0, .ref h42, .int 0, .ref h43, .int 0, .int 0, .ref h44, .ref h45, .ref h46, .int 0, .ref h47, .ref h48, .ref h49, .ref h50, .ref h51, .ref h52, .ref h53, .int 0, .ref h54, .int 0, .ref h55, .ref h56, .ref h57, .int 0, .ref h58, .ref h59, .ref h60, .ref h61, .int 0, .ref h62, .ref h63, .ref h64, .ref h65, .int 0, .int 0, .int 0, .int 0, .int 0, .int 0, .int 0, .int 0, .int 0, .ref h66, .int 0, .ref h67, .int 0, .int 0, .int 0, .int 0, .int 0, .ref h68, .int 0, .int 0, .ref h69, .int 0, .ref h70, .int 0, .ref h71, .ref h72, .int 0, .ref h73, .ref h74, .ref h75, .ref h76, .long 0, .int 0, .ref h77, .ref h78, .ref h79, .ref h80, .ref h81, .ref h82, .ref h83, .ref h84, .ref h85, .ref h86, .ref h87, .ref h88, .ref h89, .ref h90, .ref h91, .int 0, .ref h92, .ref h93, .ref h94, .int 0])), (h48, .inl (k0, 4, .inl (fun _ => 0))), (h49, .inl (k1, 4, .inl (fun _ => 0))), (h50, .inl (k2, 400, .inl (upd (upd (fun _ => 0) 300 (((w0 >>> ((32 : Int32).toInt64 &&& 63)) &&& 65535).toInt32)) 301 (((w0 >>> ((16 : Int32).toInt64 &&& 63)) &&& 65535).toInt32))))] := hD_309
          clear hP_301 hD_301 hS_301
          refine lv_iinc (v := 2) (lv' := [(6, .int 2), (5, .int 0), (0, .ref h0), (1, .int 3), (2, .int 3), (3, .long w0)]) hx hb dX12_put__102 hl_302 (k := 0) rfl (by decide) (by decide) rfl (fun ls_310 hl_310 => ?_)
          clear hl_302
          refine lv_goto (tgt := 65) hx hb dX12_put__105 (by decide) ?_
          refine lv_iload hx hb dX12_put__65 (lv_at hl_310 0 rfl) ?_
          refine lv_iload_n hx hb dX12_put__67 rfl (lv_at hl_310 4 rfl) ?_
          refine lv_icmp_ge (tgt := 108) hx hb dX12_put__68 (by decide) (fun c_ => absurd c_ (by decide)) (fun _ => ?_)
          refine lv_aload_n hx hb dX12_put__71 rfl (lv_at hl_310 2 rfl) ?_
          refine va_get (D := (dC, dI)) (ci := 15) (v := .ref h50) (C := RX12) (T := TX12) (N := 143) hx hb ht inX12 hown hK_3 hP_309 0 rfl rfl 70 (by decide) (ht _ tw_2210) (fun _ h9 => h9) rfl dX12_put__72 ?_
          refine lv_bipush (v := 100) hx hb dX12_put__75 (by decide) ?_
          refine lv_iload_n hx hb dX12_put__77 rfl (lv_at hl_310 3 rfl) ?_
          refine lv_imul hx hb dX12_put__78 ?_
          refine lv_topi (fun x_311 ex_311 => ?_)
          obtain rfl : x_311 = 300 := ex_311.trans (by decide)
          refine lv_iload hx hb dX12_put__79 (lv_at hl_310 1 rfl) ?_
          refine lv_iadd hx hb dX12_put__81 ?_
          refine lv_topi (fun x_312 ex_312 => ?_)
          obtain rfl : x_312 = 300 := ex_312.trans (by decide)
          refine lv_iload hx hb dX12_put__82 (lv_at hl_310 0 rfl) ?_
          refine lv_iadd hx hb dX12_put__84 ?_
          refine lv_topi (fun x_313 ex_313 => ?_)
          obtain rfl : x_313 = 302 := ex_313.trans (by decide)
          refine lv_lload_n hx hb dX12_put__85 rfl (lv_at hl_310 5 rfl) ?_
          refine lv_bipush (v := 16) hx hb dX12_put__86 (by decide) ?_
          refine lv_iload_n hx hb dX12_put__88 rfl (lv_at hl_310 4 rfl) ?_
          refine lv_iconst (v := 1) hx hb dX12_put__89 (by decide) ?_
          refine lv_isub hx hb dX12_put__90 ?_
          refine lv_topi (fun x_314 ex_314 => ?_)
          obtain rfl : x_314 = 2 := ex_314.trans (by decide)
          refine lv_iload hx hb dX12_put__91 (lv_at hl_310 0 rfl) ?_
          refine lv_isub hx hb dX12_put__93 ?_
          refine lv_topi (fun x_315 ex_315 => ?_)
          obtain rfl : x_315 = 0 := ex_315.trans (by decide)
          refine lv_imul hx hb dX12_put__94 ?_
          refine lv_topi (fun x_316 ex_316 => ?_)
          obtain rfl : x_316 = 0 := ex_316.trans (by decide)
          refine lv_lshr (v := (w0 >>> ((0 : Int32).toInt64 &&& 63))) hx hb dX12_put__95 rfl ?_
          refine lv_ldc2 hx hb hown (ht _ tw_2813) dX12_put__96 ?_
          refine lv_land hx hb dX12_put__99 ?_
          refine lv_l2i (v := ((w0 >>> ((0 : Int32).toInt64 &&& 63)) &&& 65535).toInt32) hx hb dX12_put__100 rfl ?_
          refine va_iast hx hb hK_3 hP_309 hD_309 hS_309 3 2 rfl rfl (i := 302) (vpi (by decide)) dX12_put__101 (fun H_317 locs_317 hP_317 hD_317 hS_317 => ?_)
          have hP_317 : va_P (dC, dI) vwCl [(h0, .inr (15, [.int 0, .int 0, .ref h1, .int 0, .int (-1), .ref h2, .ref h3, .ref h4, .ref h5, .ref h6, .ref h7, .ref h8, .ref h9, .ref h10, .ref h11, .ref h12, .ref h13, .ref h14, .ref h15, .ref h16, .ref h17, .ref h18, .ref h19, .ref h20, .ref h21, .ref h22, .ref h23, .ref h24, .ref h25, .ref h26, .ref h27, .int 0, .ref h28, .ref h29, .int 0, .int 0, .int 0, .int 0, .int 0, .int 0, .ref h30, .int 0, .ref h31, .ref h32, .ref h33, .ref h34, .ref h35, .ref h36, .ref h37, .ref h38, .int 0, .int 0, .int 0, .int 0, .ref h39, .ref h40, .ref h41, .int 0, .ref h42, .int 0, .ref h43, .int 0, .int 0, .ref h44, .ref h45, .ref h46, .int 0, .ref h47, .ref h48, .ref h49, .ref h50, .ref h51, .ref h52, .ref h53, .int 0, .ref h54, .int 0, .ref h55, .ref h56, .ref h57, .int 0, .ref h58, .ref h59, .ref h60, .ref h61, .int 0, .ref h62, .ref h63, .ref h64, .ref h65, .int 0, .int 0, .int 0, .int 0, .int 0, .int 0, .int 0, .int 0, .int 0, .ref h66, .int 0, .ref h67, .int 0, .int 0, .int 0, .int 0, .int 0, .ref h68, .int 0, .int 0, .ref h69, .int 0, .ref h70, .int 0, .ref h71, .ref h72, .int 0, .ref h73, .ref h74, .ref h75, .ref h76, .long 0, .int 0, .ref h77, .ref h78, .ref h79, .ref h80, .ref h81, .ref h82, .ref h83, .ref h84, .ref h85, .ref h86, .ref h87, .ref h88, .ref h89, .ref h90, .ref h91, .int 0, .ref h92, .ref h93, .ref h94, .int 0])), (h48, .inl (k0, 4, .inl (fun _ => 0))), (h49, .inl (k1, 4, .inl (fun _ => 0))), (h50, .inl (k2, 400, .inl (upd (upd (upd (fun _ => 0) 300 (((w0 >>> ((32 : Int32).toInt64 &&& 63)) &&& 65535).toInt32)) 301 (((w0 >>> ((16 : Int32).toInt64 &&& 63)) &&& 65535).toInt32)) 302 (((w0 >>> ((0 : Int32).toInt64 &&& 63)) &&& 65535).toInt32))))] H_317 := hP_317
          have hD_317 : va_D A [(h0, .inr (15, [.int 0, .int 0, .ref h1, .int 0, .int (-1), .ref h2, .ref h3, .ref h4, .ref h5, .ref h6, .ref h7, .ref h8, .ref h9, .ref h10, .ref h11, .ref h12, .ref h13, .ref h14, .ref h15, .ref h16, .ref h17, .ref h18, .ref h19, .ref h20, .ref h21, .ref h22, .ref h23, .ref h24, .ref h25, .ref h26, .ref h27, .int 0, .ref h28, .ref h29, .int 0, .int 0, .int 0, .int 0, .int 0, .int 0, .ref h30, .int 0, .ref h31, .ref h32, .ref h33, .ref h34, .ref h35, .ref h36, .ref h37, .ref h38, .int 0, .int 0, .int 0, .int 0, .ref h39, .ref h40, .ref h41, .int 0, .ref h42, .int 0, .ref h43, .int 0, .int 0, .ref h44, .ref h45, .ref h46, .int 0, .ref h47, .ref h48, .ref h49, .ref h50, .ref h51, .ref h52, .ref h53, .int 0, .ref h54, .int 0, .ref h55, .ref h56, .ref h57, .int 0, .ref h58, .ref h59, .ref h60, .ref h61, .int 0, .ref h62, .ref h63, .ref h64, .ref h65, .int 0, .int 0, .int 0, .int 0, .int 0, .int 0, .int 0, .int 0, .int 0, .ref h66, .int 0, .ref h67, .int 0, .int 0, .int 0, .int 0, .int 0, .ref h68, .int 0, .int 0, .ref h69, .int 0, .ref h70, .int 0, .ref h71, .ref h72, .int 0, .ref h73, .ref h74, .ref h75, .ref h76, .long 0, .int 0, .ref h77, .ref h78, .ref h79, .ref h80, .ref h81, .ref h82, .ref h83, .ref h84, .ref h85, .ref h86, .ref h87, .ref h88, .ref h89, .ref h90, .ref h91, .int 0, .ref h92, .ref h93, .ref h94, .int 0])), (h48, .inl (k0, 4, .inl (fun _ => 0))), (h49, .inl (k1, 4, .inl (fun _ => 0))), (h50, .inl (k2, 400, .inl (upd (upd (upd (fun _ => 0) 300 (((w0 >>> ((32 : Int32).toInt64 &&& 63)) &&& 65535).toInt32)) 301 (((w0 >>> ((16 : Int32).toInt64 &&& 63)) &&& 65535).toInt32)) 302 (((w0 >>> ((0 : Int32).toInt64 &&& 63)) &&& 65535).toInt32))))] := hD_317
          clear hP_309 hD_309 hS_309
          refine lv_iinc (v := 3) (lv' := [(6, .int 3), (5, .int 0), (0, .ref h0), (1, .int 3), (2, .int 3), (3, .long w0)]) hx hb dX12_put__102 hl_310 (k := 0) rfl (by decide) (by decide) rfl (fun ls_318 hl_318 => ?_)
          clear hl_310
          refine lv_goto (tgt := 65) hx hb dX12_put__105 (by decide) ?_
          refine lv_iload hx hb dX12_put__65 (lv_at hl_318 0 rfl) ?_
          refine lv_iload_n hx hb dX12_put__67 rfl (lv_at hl_318 4 rfl) ?_
          refine lv_icmp_ge (tgt := 108) hx hb dX12_put__68 (by decide) (fun _ => ?_) (fun c_ => absurd (by decide) c_)
          refine lv_aload_n hx hb dX12_put__108 rfl (lv_at hl_318 2 rfl) ?_
          refine va_get (D := (dC, dI)) (ci := 15) (v := .ref h48) (C := RX12) (T := TX12) (N := 143) hx hb ht inX12 hown hK_3 hP_317 0 rfl rfl 68 (by decide) (ht _ tw_2208) (fun _ h9 => h9) rfl dX12_put__109 ?_
          refine lv_iload_n hx hb dX12_put__112 rfl (lv_at hl_318 3 rfl) ?_
          refine lv_iconst (v := 1) hx hb dX12_put__113 (by decide) ?_
          refine va_zast hx hb hK_3 hP_317 hD_317 hS_317 1 0 rfl rfl (i := 3) (vpi (by decide)) dX12_put__114 (fun H_319 locs_319 hP_319 hD_319 hS_319 => ?_)
          have hP_319 : va_P (dC, dI) vwCl [(h0, .inr (15, [.int 0, .int 0, .ref h1, .int 0, .int (-1), .ref h2, .ref h3, .ref h4, .ref h5, .ref h6, .ref h7, .ref h8, .ref h9, .ref h10, .ref h11, .ref h12, .ref h13, .ref h14, .ref h15, .ref h16, .ref h17, .ref h18, .ref h19, .ref h20, .ref h21, .ref h22, .ref h23, .ref h24, .ref h25, .ref h26, .ref h27, .int 0, .ref h28, .ref h29, .int 0, .int 0, .int 0, .int 0, .int 0, .int 0, .ref h30, .int 0, .ref h31, .ref h32, .ref h33, .ref h34, .ref h35, .ref h36, .ref h37, .ref h38, .int 0, .int 0, .int 0, .int 0, .ref h39, .ref h40, .ref h41, .int 0, .ref h42, .int 0, .ref h43, .int 0, .int 0, .ref h44, .ref h45, .ref h46, .int 0, .ref h47, .ref h48, .ref h49, .ref h50, .ref h51, .ref h52, .ref h53, .int 0, .ref h54, .int 0, .ref h55, .ref h56, .ref h57, .int 0, .ref h58, .ref h59, .ref h60, .ref h61, .int 0, .ref h62, .ref h63, .ref h64, .ref h65, .int 0, .int 0, .int 0, .int 0, .int 0, .int 0, .int 0, .int 0, .int 0, .ref h66, .int 0, .ref h67, .int 0, .int 0, .int 0, .int 0, .int 0, .ref h68, .int 0, .int 0, .ref h69, .int 0, .ref h70, .int 0, .ref h71, .ref h72, .int 0, .ref h73, .ref h74, .ref h75, .ref h76, .long 0, .int 0, .ref h77, .ref h78, .ref h79, .ref h80, .ref h81, .ref h82, .ref h83, .ref h84, .ref h85, .ref h86, .ref h87, .ref h88, .ref h89, .ref h90, .ref h91, .int 0, .ref h92, .ref h93, .ref h94, .int 0])), (h48, .inl (k0, 4, .inl (upd (fun _ => 0) 3 1))), (h49, .inl (k1, 4, .inl (fun _ => 0))), (h50, .inl (k2, 400, .inl (upd (upd (upd (fun _ => 0) 300 (((w0 >>> ((32 : Int32).toInt64 &&& 63)) &&& 65535).toInt32)) 301 (((w0 >>> ((16 : Int32).toInt64 &&& 63)) &&& 65535).toInt32)) 302 (((w0 >>> ((0 : Int32).toInt64 &&& 63)) &&& 65535).toInt32))))] H_319 := hP_319
          have hD_319 : va_D A [(h0, .inr (15, [.int 0, .int 0, .ref h1, .int 0, .int (-1), .ref h2, .ref h3, .ref h4, .ref h5, .ref h6, .ref h7, .ref h8, .ref h9, .ref h10, .ref h11, .ref h12, .ref h13, .ref h14, .ref h15, .ref h16, .ref h17, .ref h18, .ref h19, .ref h20, .ref h21, .ref h22, .ref h23, .ref h24, .ref h25, .ref h26, .ref h27, .int 0, .ref h28, .ref h29, .int 0, .int 0, .int 0, .int 0, .int 0, .int 0, .ref h30, .int 0, .ref h31, .ref h32, .ref h33, .ref h34, .ref h35, .ref h36, .ref h37, .ref h38, .int 0, .int 0, .int 0, .int 0, .ref h39, .ref h40, .ref h41, .int 0, .ref h42, .int 0, .ref h43, .int 0, .int 0, .ref h44, .ref h45, .ref h46, .int 0, .ref h47, .ref h48, .ref h49, .ref h50, .ref h51, .ref h52, .ref h53, .int 0, .ref h54, .int 0, .ref h55, .ref h56, .ref h57, .int 0, .ref h58, .ref h59, .ref h60, .ref h61, .int 0, .ref h62, .ref h63, .ref h64, .ref h65, .int 0, .int 0, .int 0, .int 0, .int 0, .int 0, .int 0, .int 0, .int 0, .ref h66, .int 0, .ref h67, .int 0, .int 0, .int 0, .int 0, .int 0, .ref h68, .int 0, .int 0, .ref h69, .int 0, .ref h70, .int 0, .ref h71, .ref h72, .int 0, .ref h73, .ref h74, .ref h75, .ref h76, .long 0, .int 0, .ref h77, .ref h78, .ref h79, .ref h80, .ref h81, .ref h82, .ref h83, .ref h84, .ref h85, .ref h86, .ref h87, .ref h88, .ref h89, .ref h90, .ref h91, .int 0, .ref h92, .ref h93, .ref h94, .int 0])), (h48, .inl (k0, 4, .inl (upd (fun _ => 0) 3 1))), (h49, .inl (k1, 4, .inl (fun _ => 0))), (h50, .inl (k2, 400, .inl (upd (upd (upd (fun _ => 0) 300 (((w0 >>> ((32 : Int32).toInt64 &&& 63)) &&& 65535).toInt32)) 301 (((w0 >>> ((16 : Int32).toInt64 &&& 63)) &&& 65535).toInt32)) 302 (((w0 >>> ((0 : Int32).toInt64 &&& 63)) &&& 65535).toInt32))))] := hD_319
          clear hP_317 hD_317 hS_317
          refine lv_aload_n hx hb dX12_put__115 rfl (lv_at hl_318 2 rfl) ?_
          refine va_get (D := (dC, dI)) (ci := 15) (v := .ref h49) (C := RX12) (T := TX12) (N := 143) hx hb ht inX12 hown hK_3 hP_319 0 rfl rfl 69 (by decide) (ht _ tw_2209) (fun _ h9 => h9) rfl dX12_put__116 ?_
          refine lv_iload_n hx hb dX12_put__119 rfl (lv_at hl_318 3 rfl) ?_
          refine lv_iload hx hb dX12_put__120 (lv_at hl_318 1 rfl) ?_
          refine lv_iload_n hx hb dX12_put__122 rfl (lv_at hl_318 4 rfl) ?_
          refine lv_iadd hx hb dX12_put__123 ?_
          refine lv_topi (fun x_320 ex_320 => ?_)
          obtain rfl : x_320 = 3 := ex_320.trans (by decide)
          refine va_iast hx hb hK_3 hP_319 hD_319 hS_319 2 1 rfl rfl (i := 3) (vpi (by decide)) dX12_put__124 (fun H_321 locs_321 hP_321 hD_321 hS_321 => ?_)
          have hP_321 : va_P (dC, dI) vwCl [(h0, .inr (15, [.int 0, .int 0, .ref h1, .int 0, .int (-1), .ref h2, .ref h3, .ref h4, .ref h5, .ref h6, .ref h7, .ref h8, .ref h9, .ref h10, .ref h11, .ref h12, .ref h13, .ref h14, .ref h15, .ref h16, .ref h17, .ref h18, .ref h19, .ref h20, .ref h21, .ref h22, .ref h23, .ref h24, .ref h25, .ref h26, .ref h27, .int 0, .ref h28, .ref h29, .int 0, .int 0, .int 0, .int 0, .int 0, .int 0, .ref h30, .int 0, .ref h31, .ref h32, .ref h33, .ref h34, .ref h35, .ref h36, .ref h37, .ref h38, .int 0, .int 0, .int 0, .int 0, .ref h39, .ref h40, .ref h41, .int 0, .ref h42, .int 0, .ref h43, .int 0, .int 0, .ref h44, .ref h45, .ref h46, .int 0, .ref h47, .ref h48, .ref h49, .ref h50, .ref h51, .ref h52, .ref h53, .int 0, .ref h54, .int 0, .ref h55, .ref h56, .ref h57, .int 0, .ref h58, .ref h59, .ref h60, .ref h61, .int 0, .ref h62, .ref h63, .ref h64, .ref h65, .int 0, .int 0, .int 0, .int 0, .int 0, .int 0, .int 0, .int 0, .int 0, .ref h66, .int 0, .ref h67, .int 0, .int 0, .int 0, .int 0, .int 0, .ref h68, .int 0, .int 0, .ref h69, .int 0, .ref h70, .int 0, .ref h71, .ref h72, .int 0, .ref h73, .ref h74, .ref h75, .ref h76, .long 0, .int 0, .ref h77, .ref h78, .ref h79, .ref h80, .ref h81, .ref h82, .ref h83, .ref h84, .ref h85, .ref h86, .ref h87, .ref h88, .ref h89, .ref h90, .ref h91, .int 0, .ref h92, .ref h93, .ref h94, .int 0])), (h48, .inl (k0, 4, .inl (upd (fun _ => 0) 3 1))), (h49, .inl (k1, 4, .inl (upd (fun _ => 0) 3 3))), (h50, .inl (k2, 400, .inl (upd (upd (upd (fun _ => 0) 300 (((w0 >>> ((32 : Int32).toInt64 &&& 63)) &&& 65535).toInt32)) 301 (((w0 >>> ((16 : Int32).toInt64 &&& 63)) &&& 65535).toInt32)) 302 (((w0 >>> ((0 : Int32).toInt64 &&& 63)) &&& 65535).toInt32))))] H_321 := hP_321
          have hD_321 : va_D A [(h0, .inr (15, [.int 0, .int 0, .ref h1, .int 0, .int (-1), .ref h2, .ref h3, .ref h4, .ref h5, .ref h6, .ref h7, .ref h8, .ref h9, .ref h10, .ref h11, .ref h12, .ref h13, .ref h14, .ref h15, .ref h16, .ref h17, .ref h18, .ref h19, .ref h20, .ref h21, .ref h22, .ref h23, .ref h24, .ref h25, .ref h26, .ref h27, .int 0, .ref h28, .ref h29, .int 0, .int 0, .int 0, .int 0, .int 0, .int 0, .ref h30, .int 0, .ref h31, .ref h32, .ref h33, .ref h34, .ref h35, .ref h36, .ref h37, .ref h38, .int 0, .int 0, .int 0, .int 0, .ref h39, .ref h40, .ref h41, .int 0, .ref h42, .int 0, .ref h43, .int 0, .int 0, .ref h44, .ref h45, .ref h46, .int 0, .ref h47, .ref h48, .ref h49, .ref h50, .ref h51, .ref h52, .ref h53, .int 0, .ref h54, .int 0, .ref h55, .ref h56, .ref h57, .int 0, .ref h58, .ref h59, .ref h60, .ref h61, .int 0, .ref h62, .ref h63, .ref h64, .ref h65, .int 0, .int 0, .int 0, .int 0, .int 0, .int 0, .int 0, .int 0, .int 0, .ref h66, .int 0, .ref h67, .int 0, .int 0, .int 0, .int 0, .int 0, .ref h68, .int 0, .int 0, .ref h69, .int 0, .ref h70, .int 0, .ref h71, .ref h72, .int 0, .ref h73, .ref h74, .ref h75, .ref h76, .long 0, .int 0, .ref h77, .ref h78, .ref h79, .ref h80, .ref h81, .ref h82, .ref h83, .ref h84, .ref h85, .ref h86, .ref h87, .ref h88, .ref h89, .ref h90, .ref h91, .int 0, .ref h92, .ref h93, .ref h94, .int 0])), (h48, .inl (k0, 4, .inl (upd (fun _ => 0) 3 1))), (h49, .inl (k1, 4, .inl (upd (fun _ => 0) 3 3))), (h50, .inl (k2, 400, .inl (upd (upd (upd (fun _ => 0) 300 (((w0 >>> ((32 : Int32).toInt64 &&& 63)) &&& 65535).toInt32)) 301 (((w0 >>> ((16 : Int32).toInt64 &&& 63)) &&& 65535).toInt32)) 302 (((w0 >>> ((0 : Int32).toInt64 &&& 63)) &&& 65535).toInt32))))] := hD_321
          clear hP_319 hD_319 hS_319
          refine lv_aload_n hx hb dX12_put__125 rfl (lv_at hl_318 2 rfl) ?_
          refine lv_aload_n hx hb dX12_put__126 rfl (lv_at hl_318 2 rfl) ?_
          refine va_get (D := (dC, dI)) (ci := 15) (v := .int 0) (C := RX12) (T := TX12) (N := 143) hx hb ht inX12 hown hK_3 hP_321 0 rfl rfl 102 (by decide) (ht _ tw_2242) (fun _ h9 => h9) rfl dX12_put__127 ?_
          refine lv_if_eq (tgt := 145) hx hb dX12_put__130 (by decide) (fun _ => ?_) (fun c_ => absurd (by decide) c_)
          refine lv_iconst (v := 0) hx hb dX12_put__145 (by decide) ?_
          refine va_put (D := (dC, dI)) (ci := 15) (v := .int 0) (ty := .boolean) (C := RX12) (T := TX12) (N := 143) hx hb ht inX12 tyX12 tyX12_ok nmX12 hown hK_3 hP_321 hD_321 hS_321 0 rfl rfl 102 (by decide) (ht _ tw_2242) (fun _ h9 => h9) rfl (by decide +kernel) rfl rfl (Nat.le_of_ble_eq_true rfl) dX12_put__146 (fun H_322 locs_322 hP_322 hD_322 hS_322 => ?_)
          have hP_322 : va_P (dC, dI) vwCl [(h0, .inr (15, [.int 0, .int 0, .ref h1, .int 0, .int (-1), .ref h2, .ref h3, .ref h4, .ref h5, .ref h6, .ref h7, .ref h8, .ref h9, .ref h10, .ref h11, .ref h12, .ref h13, .ref h14, .ref h15, .ref h16, .ref h17, .ref h18, .ref h19, .ref h20, .ref h21, .ref h22, .ref h23, .ref h24, .ref h25, .ref h26, .ref h27, .int 0, .ref h28, .ref h29, .int 0, .int 0, .int 0, .int 0, .int 0, .int 0, .ref h30, .int 0, .ref h31, .ref h32, .ref h33, .ref h34, .ref h35, .ref h36, .ref h37, .ref h38, .int 0, .int 0, .int 0, .int 0, .ref h39, .ref h40, .ref h41, .int 0, .ref h42, .int 0, .ref h43, .int 0, .int 0, .ref h44, .ref h45, .ref h46, .int 0, .ref h47, .ref h48, .ref h49, .ref h50, .ref h51, .ref h52, .ref h53, .int 0, .ref h54, .int 0, .ref h55, .ref h56, .ref h57, .int 0, .ref h58, .ref h59, .ref h60, .ref h61, .int 0, .ref h62, .ref h63, .ref h64, .ref h65, .int 0, .int 0, .int 0, .int 0, .int 0, .int 0, .int 0, .int 0, .int 0, .ref h66, .int 0, .ref h67, .int 0, .int 0, .int 0, .int 0, .int 0, .ref h68, .int 0, .int 0, .ref h69, .int 0, .ref h70, .int 0, .ref h71, .ref h72, .int 0, .ref h73, .ref h74, .ref h75, .ref h76, .long 0, .int 0, .ref h77, .ref h78, .ref h79, .ref h80, .ref h81, .ref h82, .ref h83, .ref h84, .ref h85, .ref h86, .ref h87, .ref h88, .ref h89, .ref h90, .ref h91, .int 0, .ref h92, .ref h93, .ref h94, .int 0])), (h48, .inl (k0, 4, .inl (upd (fun _ => 0) 3 1))), (h49, .inl (k1, 4, .inl (upd (fun _ => 0) 3 3))), (h50, .inl (k2, 400, .inl (upd (upd (upd (fun _ => 0) 300 (((w0 >>> ((32 : Int32).toInt64 &&& 63)) &&& 65535).toInt32)) 301 (((w0 >>> ((16 : Int32).toInt64 &&& 63)) &&& 65535).toInt32)) 302 (((w0 >>> ((0 : Int32).toInt64 &&& 63)) &&& 65535).toInt32))))] H_322 := hP_322
          have hD_322 : va_D A [(h0, .inr (15, [.int 0, .int 0, .ref h1, .int 0, .int (-1), .ref h2, .ref h3, .ref h4, .ref h5, .ref h6, .ref h7, .ref h8, .ref h9, .ref h10, .ref h11, .ref h12, .ref h13, .ref h14, .ref h15, .ref h16, .ref h17, .ref h18, .ref h19, .ref h20, .ref h21, .ref h22, .ref h23, .ref h24, .ref h25, .ref h26, .ref h27, .int 0, .ref h28, .ref h29, .int 0, .int 0, .int 0, .int 0, .int 0, .int 0, .ref h30, .int 0, .ref h31, .ref h32, .ref h33, .ref h34, .ref h35, .ref h36, .ref h37, .ref h38, .int 0, .int 0, .int 0, .int 0, .ref h39, .ref h40, .ref h41, .int 0, .ref h42, .int 0, .ref h43, .int 0, .int 0, .ref h44, .ref h45, .ref h46, .int 0, .ref h47, .ref h48, .ref h49, .ref h50, .ref h51, .ref h52, .ref h53, .int 0, .ref h54, .int 0, .ref h55, .ref h56, .ref h57, .int 0, .ref h58, .ref h59, .ref h60, .ref h61, .int 0, .ref h62, .ref h63, .ref h64, .ref h65, .int 0, .int 0, .int 0, .int 0, .int 0, .int 0, .int 0, .int 0, .int 0, .ref h66, .int 0, .ref h67, .int 0, .int 0, .int 0, .int 0, .int 0, .ref h68, .int 0, .int 0, .ref h69, .int 0, .ref h70, .int 0, .ref h71, .ref h72, .int 0, .ref h73, .ref h74, .ref h75, .ref h76, .long 0, .int 0, .ref h77, .ref h78, .ref h79, .ref h80, .ref h81, .ref h82, .ref h83, .ref h84, .ref h85, .ref h86, .ref h87, .ref h88, .ref h89, .ref h90, .ref h91, .int 0, .ref h92, .ref h93, .ref h94, .int 0])), (h48, .inl (k0, 4, .inl (upd (fun _ => 0) 3 1))), (h49, .inl (k1, 4, .inl (upd (fun _ => 0) 3 3))), (h50, .inl (k2, 400, .inl (upd (upd (upd (fun _ => 0) 300 (((w0 >>> ((32 : Int32).toInt64 &&& 63)) &&& 65535).toInt32)) 301 (((w0 >>> ((16 : Int32).toInt64 &&& 63)) &&& 65535).toInt32)) 302 (((w0 >>> ((0 : Int32).toInt64 &&& 63)) &&& 65535).toInt32))))] := hD_322
          clear hP_321 hD_321 hS_321
          refine lv_iload hx hb dX12_put__149 (lv_at hl_318 1 rfl) ?_
          refine lv_iload_n hx hb dX12_put__151 rfl (lv_at hl_318 4 rfl) ?_
          refine lv_iadd hx hb dX12_put__152 ?_
          refine lv_topi (fun x_323 ex_323 => ?_)
          obtain rfl : x_323 = 3 := ex_323.trans (by decide)
          have hP9 := hP_322.sub (ws' := []) [] rfl
          have hD9 := hD_322.sub (ws' := []) [] (by decide) rfl
          have hK9 := hK_3.sub (tys' := []) [] rfl
          refine W.widen (k := 0) (n := 0) (by decide) (by decide) ?_
          exact W.iret (v := 3) hx hb hr (fun t9 ht9 hW9 => ⟨⟨3, 4, rfl, (Or.inr (Or.inr (Or.inr (Or.inr ⟨rfl, rfl, cc_2_0, cc_2_1, cc_3_0, cc_3_1⟩)))), ⟨by rw [ht9]; exact hP9, va_K.moved hW9.alike hK9, hD9⟩⟩, hS_322.F ht9⟩) hS_322.2.2 dX12_put__153
      · refine lv_aload_n hx hb dX12_put__29 rfl (lv_at hl 0 rfl) ?_
        refine va_get (D := (dC, dI)) (ci := 15) (v := .ref h48) (C := RX12) (T := TX12) (N := 143) hx hb ht inX12 hown hK_3 hP_3 0 rfl rfl 68 (by decide) (ht _ tw_2208) (fun _ h9 => h9) rfl dX12_put__30 ?_
        refine lv_iload_n hx hb dX12_put__33 rfl (lv_at hl 1 rfl) ?_
        rcases sp_4 cc_2_0 cc_2_1 with rfl | rfl | rfl | rfl
        · refine va_zald hx hb hK_3 hP_3 1 0 rfl rfl (i := 0) (vpi (by decide)) dX12_put__34 ?_
          refine W.eq (g2 := F0 m 35 ls [.int 0]) rfl ?_
          refine lv_if_eq (tgt := 47) hx hb dX12_put__35 (by decide) (fun _ => ?_) (fun c_ => absurd (by decide) c_)
          refine lv_iconst (v := 0) hx hb dX12_put__47 (by decide) ?_
          refine lv_istore (lv' := [(5, .int 0), (0, .ref h0), (1, .int 0), (2, .int 4), (3, .long w0)]) hx hb dX12_put__48 hl (by decide) rfl (fun ls_324 hl_324 => ?_)
          clear hl
          refine lv_iload hx hb dX12_put__50 (lv_at hl_324 0 rfl) ?_
          refine lv_iload_n hx hb dX12_put__52 rfl (lv_at hl_324 3 rfl) ?_
          refine lv_iadd hx hb dX12_put__53 ?_
          refine lv_topi (fun x_325 ex_325 => ?_)
          obtain rfl : x_325 = 4 := ex_325.trans (by decide)
          refine lv_bipush (v := 100) hx hb dX12_put__54 (by decide) ?_
          refine lv_icmp_le (tgt := 62) hx hb dX12_put__56 (by decide) (fun _ => ?_) (fun c_ => absurd (by decide) c_)
          refine lv_iconst (v := 0) hx hb dX12_put__62 (by decide) ?_
          refine lv_istore (lv' := [(6, .int 0), (5, .int 0), (0, .ref h0), (1, .int 0), (2, .int 4), (3, .long w0)]) hx hb dX12_put__63 hl_324 (by decide) rfl (fun ls_326 hl_326 => ?_)
          clear hl_324
          refine lv_iload hx hb dX12_put__65 (lv_at hl_326 0 rfl) ?_
          refine lv_iload_n hx hb dX12_put__67 rfl (lv_at hl_326 4 rfl) ?_
          refine lv_icmp_ge (tgt := 108) hx hb dX12_put__68 (by decide) (fun c_ => absurd c_ (by decide)) (fun _ => ?_)
          refine lv_aload_n hx hb dX12_put__71 rfl (lv_at hl_326 2 rfl) ?_
          refine va_get (D := (dC, dI)) (ci := 15) (v := .ref h50) (C := RX12) (T := TX12) (N := 143) hx hb ht inX12 hown hK_3 hP_3 0 rfl rfl 70 (by decide) (ht _ tw_2210) (fun _ h9 => h9) rfl dX12_put__72 ?_
          refine lv_bipush (v := 100) hx hb dX12_put__75 (by decide) ?_
          refine lv_iload_n hx hb dX12_put__77 rfl (lv_at hl_326 3 rfl) ?_
          refine lv_imul hx hb dX12_put__78 ?_
          refine lv_topi (fun x_327 ex_327 => ?_)
          obtain rfl : x_327 = 0 := ex_327.trans (by decide)
          refine lv_iload hx hb dX12_put__79 (lv_at hl_326 1 rfl) ?_
          refine lv_iadd hx hb dX12_put__81 ?_
          refine lv_topi (fun x_328 ex_328 => ?_)
          obtain rfl : x_328 = 0 := ex_328.trans (by decide)
          refine lv_iload hx hb dX12_put__82 (lv_at hl_326 0 rfl) ?_
          refine lv_iadd hx hb dX12_put__84 ?_
          refine lv_topi (fun x_329 ex_329 => ?_)
          obtain rfl : x_329 = 0 := ex_329.trans (by decide)
          refine lv_lload_n hx hb dX12_put__85 rfl (lv_at hl_326 5 rfl) ?_
          refine lv_bipush (v := 16) hx hb dX12_put__86 (by decide) ?_
          refine lv_iload_n hx hb dX12_put__88 rfl (lv_at hl_326 4 rfl) ?_
          refine lv_iconst (v := 1) hx hb dX12_put__89 (by decide) ?_
          refine lv_isub hx hb dX12_put__90 ?_
          refine lv_topi (fun x_330 ex_330 => ?_)
          obtain rfl : x_330 = 3 := ex_330.trans (by decide)
          refine lv_iload hx hb dX12_put__91 (lv_at hl_326 0 rfl) ?_
          refine lv_isub hx hb dX12_put__93 ?_
          refine lv_topi (fun x_331 ex_331 => ?_)
          obtain rfl : x_331 = 3 := ex_331.trans (by decide)
          refine lv_imul hx hb dX12_put__94 ?_
          refine lv_topi (fun x_332 ex_332 => ?_)
          obtain rfl : x_332 = 48 := ex_332.trans (by decide)
          refine lv_lshr (v := (w0 >>> ((48 : Int32).toInt64 &&& 63))) hx hb dX12_put__95 rfl ?_
          refine lv_ldc2 hx hb hown (ht _ tw_2813) dX12_put__96 ?_
          refine lv_land hx hb dX12_put__99 ?_
          refine lv_l2i (v := ((w0 >>> ((48 : Int32).toInt64 &&& 63)) &&& 65535).toInt32) hx hb dX12_put__100 rfl ?_
          refine va_iast hx hb hK_3 hP_3 hD_3 hS_3 3 2 rfl rfl (i := 0) (vpi (by decide)) dX12_put__101 (fun H_333 locs_333 hP_333 hD_333 hS_333 => ?_)
          have hP_333 : va_P (dC, dI) vwCl [(h0, .inr (15, [.int 0, .int 0, .ref h1, .int 0, .int (-1), .ref h2, .ref h3, .ref h4, .ref h5, .ref h6, .ref h7, .ref h8, .ref h9, .ref h10, .ref h11, .ref h12, .ref h13, .ref h14, .ref h15, .ref h16, .ref h17, .ref h18, .ref h19, .ref h20, .ref h21, .ref h22, .ref h23, .ref h24, .ref h25, .ref h26, .ref h27, .int 0, .ref h28, .ref h29, .int 0, .int 0, .int 0, .int 0, .int 0, .int 0, .ref h30, .int 0, .ref h31, .ref h32, .ref h33, .ref h34, .ref h35, .ref h36, .ref h37, .ref h38, .int 0, .int 0, .int 0, .int 0, .ref h39, .ref h40, .ref h41, .int 0, .ref h42, .int 0, .ref h43, .int 0, .int 0, .ref h44, .ref h45, .ref h46, .int 0, .ref h47, .ref h48, .ref h49, .ref h50, .ref h51, .ref h52, .ref h53, .int 0, .ref h54, .int 0, .ref h55, .ref h56, .ref h57, .int 0, .ref h58, .ref h59, .ref h60, .ref h61, .int 0, .ref h62, .ref h63, .ref h64, .ref h65, .int 0, .int 0, .int 0, .int 0, .int 0, .int 0, .int 0, .int 0, .int 0, .ref h66, .int 0, .ref h67, .int 0, .int 0, .int 0, .int 0, .int 0, .ref h68, .int 0, .int 0, .ref h69, .int 0, .ref h70, .int 0, .ref h71, .ref h72, .int 0, .ref h73, .ref h74, .ref h75, .ref h76, .long 0, .int 0, .ref h77, .ref h78, .ref h79, .ref h80, .ref h81, .ref h82, .ref h83, .ref h84, .ref h85, .ref h86, .ref h87, .ref h88, .ref h89, .ref h90, .ref h91, .int 0, .ref h92, .ref h93, .ref h94, .int 0])), (h48, .inl (k0, 4, .inl (fun _ => 0))), (h49, .inl (k1, 4, .inl (fun _ => 0))), (h50, .inl (k2, 400, .inl (upd (fun _ => 0) 0 (((w0 >>> ((48 : Int32).toInt64 &&& 63)) &&& 65535).toInt32))))] H_333 := hP_333
          have hD_333 : va_D A [(h0, .inr (15, [.int 0, .int 0, .ref h1, .int 0, .int (-1), .ref h2, .ref h3, .ref h4, .ref h5, .ref h6, .ref h7, .ref h8, .ref h9, .ref h10, .ref h11, .ref h12, .ref h13, .ref h14, .ref h15, .ref h16, .ref h17, .ref h18, .ref h19, .ref h20, .ref h21, .ref h22, .ref h23, .ref h24, .ref h25, .ref h26, .ref h27, .int 0, .ref h28, .ref h29, .int 0, .int 0, .int 0, .int 0, .int 0, .int 0, .ref h30, .int 0, .ref h31, .ref h32, .ref h33, .ref h34, .ref h35, .ref h36, .ref h37, .ref h38, .int 0, .int 0, .int 0, .int 0, .ref h39, .ref h40, .ref h41, .int 0, .ref h42, .int 0, .ref h43, .int 0, .int 0, .ref h44, .ref h45, .ref h46, .int 0, .ref h47, .ref h48, .ref h49, .ref h50, .ref h51, .ref h52, .ref h53, .int 0, .ref h54, .int 0, .ref h55, .ref h56, .ref h57, .int 0, .ref h58, .ref h59, .ref h60, .ref h61, .int 0, .ref h62, .ref h63, .ref h64, .ref h65, .int 0, .int 0, .int 0, .int 0, .int 0, .int 0, .int 0, .int 0, .int 0, .ref h66, .int 0, .ref h67, .int 0, .int 0, .int 0, .int 0, .int 0, .ref h68, .int 0, .int 0, .ref h69, .int 0, .ref h70, .int 0, .ref h71, .ref h72, .int 0, .ref h73, .ref h74, .ref h75, .ref h76, .long 0, .int 0, .ref h77, .ref h78, .ref h79, .ref h80, .ref h81, .ref h82, .ref h83, .ref h84, .ref h85, .ref h86, .ref h87, .ref h88, .ref h89, .ref h90, .ref h91, .int 0, .ref h92, .ref h93, .ref h94, .int 0])), (h48, .inl (k0, 4, .inl (fun _ => 0))), (h49, .inl (k1, 4, .inl (fun _ => 0))), (h50, .inl (k2, 400, .inl (upd (fun _ => 0) 0 (((w0 >>> ((48 : Int32).toInt64 &&& 63)) &&& 65535).toInt32))))] := hD_333
          clear hP_3 hD_3 hS_3
          refine lv_iinc (v := 1) (lv' := [(6, .int 1), (5, .int 0), (0, .ref h0), (1, .int 0), (2, .int 4), (3, .long w0)]) hx hb dX12_put__102 hl_326 (k := 0) rfl (by decide) (by decide) rfl (fun ls_334 hl_334 => ?_)
          clear hl_326
          refine lv_goto (tgt := 65) hx hb dX12_put__105 (by decide) ?_
          refine lv_iload hx hb dX12_put__65 (lv_at hl_334 0 rfl) ?_
          refine lv_iload_n hx hb dX12_put__67 rfl (lv_at hl_334 4 rfl) ?_
          refine lv_icmp_ge (tgt := 108) hx hb dX12_put__68 (by decide) (fun c_ => absurd c_ (by decide)) (fun _ => ?_)
          refine lv_aload_n hx hb dX12_put__71 rfl (lv_at hl_334 2 rfl) ?_
          refine va_get (D := (dC, dI)) (ci := 15) (v := .ref h50) (C := RX12) (T := TX12) (N := 143) hx hb ht inX12 hown hK_3 hP_333 0 rfl rfl 70 (by decide) (ht _ tw_2210) (fun _ h9 => h9) rfl dX12_put__72 ?_
          refine lv_bipush (v := 100) hx hb dX12_put__75 (by decide) ?_
          refine lv_iload_n hx hb dX12_put__77 rfl (lv_at hl_334 3 rfl) ?_
          refine lv_imul hx hb dX12_put__78 ?_
          refine lv_topi (fun x_335 ex_335 => ?_)
          obtain rfl : x_335 = 0 := ex_335.trans (by decide)
          refine lv_iload hx hb dX12_put__79 (lv_at hl_334 1 rfl) ?_
          refine lv_iadd hx hb dX12_put__81 ?_
          refine lv_topi (fun x_336 ex_336 => ?_)
          obtain rfl : x_336 = 0 := ex_336.trans (by decide)
          refine lv_iload hx hb dX12_put__82 (lv_at hl_334 0 rfl) ?_
          refine lv_iadd hx hb dX12_put__84 ?_
          refine lv_topi (fun x_337 ex_337 => ?_)
          obtain rfl : x_337 = 1 := ex_337.trans (by decide)
          refine lv_lload_n hx hb dX12_put__85 rfl (lv_at hl_334 5 rfl) ?_
          refine lv_bipush (v := 16) hx hb dX12_put__86 (by decide) ?_
          refine lv_iload_n hx hb dX12_put__88 rfl (lv_at hl_334 4 rfl) ?_
          refine lv_iconst (v := 1) hx hb dX12_put__89 (by decide) ?_
          refine lv_isub hx hb dX12_put__90 ?_
          refine lv_topi (fun x_338 ex_338 => ?_)
          obtain rfl : x_338 = 3 := ex_338.trans (by decide)
          refine lv_iload hx hb dX12_put__91 (lv_at hl_334 0 rfl) ?_
          refine lv_isub hx hb dX12_put__93 ?_
          refine lv_topi (fun x_339 ex_339 => ?_)
          obtain rfl : x_339 = 2 := ex_339.trans (by decide)
          refine lv_imul hx hb dX12_put__94 ?_
          refine lv_topi (fun x_340 ex_340 => ?_)
          obtain rfl : x_340 = 32 := ex_340.trans (by decide)
          refine lv_lshr (v := (w0 >>> ((32 : Int32).toInt64 &&& 63))) hx hb dX12_put__95 rfl ?_
          refine lv_ldc2 hx hb hown (ht _ tw_2813) dX12_put__96 ?_
          refine lv_land hx hb dX12_put__99 ?_
          refine lv_l2i (v := ((w0 >>> ((32 : Int32).toInt64 &&& 63)) &&& 65535).toInt32) hx hb dX12_put__100 rfl ?_
          refine va_iast hx hb hK_3 hP_333 hD_333 hS_333 3 2 rfl rfl (i := 1) (vpi (by decide)) dX12_put__101 (fun H_341 locs_341 hP_341 hD_341 hS_341 => ?_)
          have hP_341 : va_P (dC, dI) vwCl [(h0, .inr (15, [.int 0, .int 0, .ref h1, .int 0, .int (-1), .ref h2, .ref h3, .ref h4, .ref h5, .ref h6, .ref h7, .ref h8, .ref h9, .ref h10, .ref h11, .ref h12, .ref h13, .ref h14, .ref h15, .ref h16, .ref h17, .ref h18, .ref h19, .ref h20, .ref h21, .ref h22, .ref h23, .ref h24, .ref h25, .ref h26, .ref h27, .int 0, .ref h28, .ref h29, .int 0, .int 0, .int 0, .int 0, .int 0, .int 0, .ref h30, .int 0, .ref h31, .ref h32, .ref h33, .ref h34, .ref h35, .ref h36, .ref h37, .ref h38, .int 0, .int 0, .int 0, .int 0, .ref h39, .ref h40, .ref h41, .int 0, .ref h42, .int 0, .ref h43, .int 0, .int 0, .ref h44, .ref h45, .ref h46, .int 0, .ref h47, .ref h48, .ref h49, .ref h50, .ref h51, .ref h52, .ref h53, .int 0, .ref h54, .int 0, .ref h55, .ref h56, .ref h57, .int 0, .ref h58, .ref h59, .ref h60, .ref h61, .int 0, .ref h62, .ref h63, .ref h64, .ref h65, .int 0, .int 0, .int 0, .int 0, .int 0, .int 0, .int 0, .int 0, .int 0, .ref h66, .int 0, .ref h67, .int 0, .int 0, .int 0, .int 0, .int 0, .ref h68, .int 0, .int 0, .ref h69, .int 0, .ref h70, .int 0, .ref h71, .ref h72, .int 0, .ref h73, .ref h74, .ref h75, .ref h76, .long 0, .int 0, .ref h77, .ref h78, .ref h79, .ref h80, .ref h81, .ref h82, .ref h83, .ref h84, .ref h85, .ref h86, .ref h87, .ref h88, .ref h89, .ref h90, .ref h91, .int 0, .ref h92, .ref h93, .ref h94, .int 0])), (h48, .inl (k0, 4, .inl (fun _ => 0))), (h49, .inl (k1, 4, .inl (fun _ => 0))), (h50, .inl (k2, 400, .inl (upd (upd (fun _ => 0) 0 (((w0 >>> ((48 : Int32).toInt64 &&& 63)) &&& 65535).toInt32)) 1 (((w0 >>> ((32 : Int32).toInt64 &&& 63)) &&& 65535).toInt32))))] H_341 := hP_341
          have hD_341 : va_D A [(h0, .inr (15, [.int 0, .int 0, .ref h1, .int 0, .int (-1), .ref h2, .ref h3, .ref h4, .ref h5, .ref h6, .ref h7, .ref h8, .ref h9, .ref h10, .ref h11, .ref h12, .ref h13, .ref h14, .ref h15, .ref h16, .ref h17, .ref h18, .ref h19, .ref h20, .ref h21, .ref h22, .ref h23, .ref h24, .ref h25, .ref h26, .ref h27, .int 0, .ref h28, .ref h29, .int 0, .int 0, .int 0, .int 0, .int 0, .int 0, .ref h30, .int 0, .ref h31, .ref h32, .ref h33, .ref h34, .ref h35, .ref h36, .ref h37, .ref h38, .int 0, .int 0, .int 0, .int 0, .ref h39, .ref h40, .ref h41, .int 0, .ref h42, .int 0, .ref h43, .int 0, .int 0, .ref h44, .ref h45, .ref h46, .int 0, .ref h47, .ref h48, .ref h49, .ref h50, .ref h51, .ref h52, .ref h53, .int 0, .ref h54, .int 0, .ref h55, .ref h56, .ref h57, .int 0, .ref h58, .ref h59, .ref h60, .ref h61, .int 0, .ref h62, .ref h63, .ref h64, .ref h65, .int 0, .int 0, .int 0, .int 0, .int 0, .int 0, .int 0, .int 0, .int 0, .ref h66, .int 0, .ref h67, .int 0, .int 0, .int 0, .int 0, .int 0, .ref h68, .int 0, .int 0, .ref h69, .int 0, .ref h70, .int 0, .ref h71, .ref h72, .int 0, .ref h73, .ref h74, .ref h75, .ref h76, .long 0, .int 0, .ref h77, .ref h78, .ref h79, .ref h80, .ref h81, .ref h82, .ref h83, .ref h84, .ref h85, .ref h86, .ref h87, .ref h88, .ref h89, .ref h90, .ref h91, .int 0, .ref h92, .ref h93, .ref h94, .int 0])), (h48, .inl (k0, 4, .inl (fun _ => 0))), (h49, .inl (k1, 4, .inl (fun _ => 0))), (h50, .inl (k2, 400, .inl (upd (upd (fun _ => 0) 0 (((w0 >>> ((48 : Int32).toInt64 &&& 63)) &&& 65535).toInt32)) 1 (((w0 >>> ((32 : Int32).toInt64 &&& 63)) &&& 65535).toInt32))))] := hD_341
          clear hP_333 hD_333 hS_333
          refine lv_iinc (v := 2) (lv' := [(6, .int 2), (5, .int 0), (0, .ref h0), (1, .int 0), (2, .int 4), (3, .long w0)]) hx hb dX12_put__102 hl_334 (k := 0) rfl (by decide) (by decide) rfl (fun ls_342 hl_342 => ?_)
          clear hl_334
          refine lv_goto (tgt := 65) hx hb dX12_put__105 (by decide) ?_
          refine lv_iload hx hb dX12_put__65 (lv_at hl_342 0 rfl) ?_
          refine lv_iload_n hx hb dX12_put__67 rfl (lv_at hl_342 4 rfl) ?_
          refine lv_icmp_ge (tgt := 108) hx hb dX12_put__68 (by decide) (fun c_ => absurd c_ (by decide)) (fun _ => ?_)
          refine lv_aload_n hx hb dX12_put__71 rfl (lv_at hl_342 2 rfl) ?_
          refine va_get (D := (dC, dI)) (ci := 15) (v := .ref h50) (C := RX12) (T := TX12) (N := 143) hx hb ht inX12 hown hK_3 hP_341 0 rfl rfl 70 (by decide) (ht _ tw_2210) (fun _ h9 => h9) rfl dX12_put__72 ?_
          refine lv_bipush (v := 100) hx hb dX12_put__75 (by decide) ?_
          refine lv_iload_n hx hb dX12_put__77 rfl (lv_at hl_342 3 rfl) ?_
          refine lv_imul hx hb dX12_put__78 ?_
          refine lv_topi (fun x_343 ex_343 => ?_)
          obtain rfl : x_343 = 0 := ex_343.trans (by decide)
          refine lv_iload hx hb dX12_put__79 (lv_at hl_342 1 rfl) ?_
          refine lv_iadd hx hb dX12_put__81 ?_
          refine lv_topi (fun x_344 ex_344 => ?_)
          obtain rfl : x_344 = 0 := ex_344.trans (by decide)
          refine lv_iload hx hb dX12_put__82 (lv_at hl_342 0 rfl) ?_
          refine lv_iadd hx hb dX12_put__84 ?_
          refine lv_topi (fun x_345 ex_345 => ?_)
          obtain rfl : x_345 = 2 := ex_345.trans (by decide)
          refine lv_lload_n hx hb dX12_put__85 rfl (lv_at hl_342 5 rfl) ?_
          refine lv_bipush (v := 16) hx hb dX12_put__86 (by decide) ?_
          refine lv_iload_n hx hb dX12_put__88 rfl (lv_at hl_342 4 rfl) ?_
          refine lv_iconst (v := 1) hx hb dX12_put__89 (by decide) ?_
          refine lv_isub hx hb dX12_put__90 ?_
          refine lv_topi (fun x_346 ex_346 => ?_)
          obtain rfl : x_346 = 3 := ex_346.trans (by decide)
          refine lv_iload hx hb dX12_put__91 (lv_at hl_342 0 rfl) ?_
          refine lv_isub hx hb dX12_put__93 ?_
          refine lv_topi (fun x_347 ex_347 => ?_)
          obtain rfl : x_347 = 1 := ex_347.trans (by decide)
          refine lv_imul hx hb dX12_put__94 ?_
          refine lv_topi (fun x_348 ex_348 => ?_)
          obtain rfl : x_348 = 16 := ex_348.trans (by decide)
          refine lv_lshr (v := (w0 >>> ((16 : Int32).toInt64 &&& 63))) hx hb dX12_put__95 rfl ?_
          refine lv_ldc2 hx hb hown (ht _ tw_2813) dX12_put__96 ?_
          refine lv_land hx hb dX12_put__99 ?_
          refine lv_l2i (v := ((w0 >>> ((16 : Int32).toInt64 &&& 63)) &&& 65535).toInt32) hx hb dX12_put__100 rfl ?_
          refine va_iast hx hb hK_3 hP_341 hD_341 hS_341 3 2 rfl rfl (i := 2) (vpi (by decide)) dX12_put__101 (fun H_349 locs_349 hP_349 hD_349 hS_349 => ?_)
          have hP_349 : va_P (dC, dI) vwCl [(h0, .inr (15, [.int 0, .int 0, .ref h1, .int 0, .int (-1), .ref h2, .ref h3, .ref h4, .ref h5, .ref h6, .ref h7, .ref h8, .ref h9, .ref h10, .ref h11, .ref h12, .ref h13, .ref h14, .ref h15, .ref h16, .ref h17, .ref h18, .ref h19, .ref h20, .ref h21, .ref h22, .ref h23, .ref h24, .ref h25, .ref h26, .ref h27, .int 0, .ref h28, .ref h29, .int 0, .int 0, .int 0, .int 0, .int 0, .int 0, .ref h30, .int 0, .ref h31, .ref h32, .ref h33, .ref h34, .ref h35, .ref h36, .ref h37, .ref h38, .int 0, .int 0, .int 0, .int 0, .ref h39, .ref h40, .ref h41, .int 0, .ref h42, .int 0, .ref h43, .int 0, .int 0, .ref h44, .ref h45, .ref h46, .int 0, .ref h47, .ref h48, .ref h49, .ref h50, .ref h51, .ref h52, .ref h53, .int 0, .ref h54, .int 0, .ref h55, .ref h56, .ref h57, .int 0, .ref h58, .ref h59, .ref h60, .ref h61, .int 0, .ref h62, .ref h63, .ref h64, .ref h65, .int 0, .int 0, .int 0, .int 0, .int 0, .int 0, .int 0, .int 0, .int 0, .ref h66, .int 0, .ref h67, .int 0, .int 0, .int 0, .int 0, .int 0, .ref h68, .int 0, .int 0, .ref h69, .int 0, .ref h70, .int 0, .ref h71, .ref h72, .int 0, .ref h73, .ref h74, .ref h75, .ref h76, .long 0, .int 0, .ref h77, .ref h78, .ref h79, .ref h80, .ref h81, .ref h82, .ref h83, .ref h84, .ref h85, .ref h86, .ref h87, .ref h88, .ref h89, .ref h90, .ref h91, .int 0, .ref h92, .ref h93, .ref h94, .int 0])), (h48, .inl (k0, 4, .inl (fun _ => 0))), (h49, .inl (k1, 4, .inl (fun _ => 0))), (h50, .inl (k2, 400, .inl (upd (upd (upd (fun _ => 0) 0 (((w0 >>> ((48 : Int32).toInt64 &&& 63)) &&& 65535).toInt32)) 1 (((w0 >>> ((32 : Int32).toInt64 &&& 63)) &&& 65535).toInt32)) 2 (((w0 >>> ((16 : Int32).toInt64 &&& 63)) &&& 65535).toInt32))))] H_349 := hP_349
          have hD_349 : va_D A [(h0, .inr (15, [.int 0, .int 0, .ref h1, .int 0, .int (-1), .ref h2, .ref h3, .ref h4, .ref h5, .ref h6, .ref h7, .ref h8, .ref h9, .ref h10, .ref h11, .ref h12, .ref h13, .ref h14, .ref h15, .ref h16, .ref h17, .ref h18, .ref h19, .ref h20, .ref h21, .ref h22, .ref h23, .ref h24, .ref h25, .ref h26, .ref h27, .int 0, .ref h28, .ref h29, .int 0, .int 0, .int 0, .int 0, .int 0, .int 0, .ref h30, .int 0, .ref h31, .ref h32, .ref h33, .ref h34, .ref h35, .ref h36, .ref h37, .ref h38, .int 0, .int 0, .int 0, .int 0, .ref h39, .ref h40, .ref h41, .int 0, .ref h42, .int 0, .ref h43, .int 0, .int 0, .ref h44, .ref h45, .ref h46, .int 0, .ref h47, .ref h48, .ref h49, .ref h50, .ref h51, .ref h52, .ref h53, .int 0, .ref h54, .int 0, .ref h55, .ref h56, .ref h57, .int 0, .ref h58, .ref h59, .ref h60, .ref h61, .int 0, .ref h62, .ref h63, .ref h64, .ref h65, .int 0, .int 0, .int 0, .int 0, .int 0, .int 0, .int 0, .int 0, .int 0, .ref h66, .int 0, .ref h67, .int 0, .int 0, .int 0, .int 0, .int 0, .ref h68, .int 0, .int 0, .ref h69, .int 0, .ref h70, .int 0, .ref h71, .ref h72, .int 0, .ref h73, .ref h74, .ref h75, .ref h76, .long 0, .int 0, .ref h77, .ref h78, .ref h79, .ref h80, .ref h81, .ref h82, .ref h83, .ref h84, .ref h85, .ref h86, .ref h87, .ref h88, .ref h89, .ref h90, .ref h91, .int 0, .ref h92, .ref h93, .ref h94, .int 0])), (h48, .inl (k0, 4, .inl (fun _ => 0))), (h49, .inl (k1, 4, .inl (fun _ => 0))), (h50, .inl (k2, 400, .inl (upd (upd (upd (fun _ => 0) 0 (((w0 >>> ((48 : Int32).toInt64 &&& 63)) &&& 65535).toInt32)) 1 (((w0 >>> ((32 : Int32).toInt64 &&& 63)) &&& 65535).toInt32)) 2 (((w0 >>> ((16 : Int32).toInt64 &&& 63)) &&& 65535).toInt32))))] := hD_349
          clear hP_341 hD_341 hS_341
          refine lv_iinc (v := 3) (lv' := [(6, .int 3), (5, .int 0), (0, .ref h0), (1, .int 0), (2, .int 4), (3, .long w0)]) hx hb dX12_put__102 hl_342 (k := 0) rfl (by decide) (by decide) rfl (fun ls_350 hl_350 => ?_)
          clear hl_342
          refine lv_goto (tgt := 65) hx hb dX12_put__105 (by decide) ?_
          refine lv_iload hx hb dX12_put__65 (lv_at hl_350 0 rfl) ?_
          refine lv_iload_n hx hb dX12_put__67 rfl (lv_at hl_350 4 rfl) ?_
          refine lv_icmp_ge (tgt := 108) hx hb dX12_put__68 (by decide) (fun c_ => absurd c_ (by decide)) (fun _ => ?_)
          refine lv_aload_n hx hb dX12_put__71 rfl (lv_at hl_350 2 rfl) ?_
          refine va_get (D := (dC, dI)) (ci := 15) (v := .ref h50) (C := RX12) (T := TX12) (N := 143) hx hb ht inX12 hown hK_3 hP_349 0 rfl rfl 70 (by decide) (ht _ tw_2210) (fun _ h9 => h9) rfl dX12_put__72 ?_
          refine lv_bipush (v := 100) hx hb dX12_put__75 (by decide) ?_
          refine lv_iload_n hx hb dX12_put__77 rfl (lv_at hl_350 3 rfl) ?_
          refine lv_imul hx hb dX12_put__78 ?_
          refine lv_topi (fun x_351 ex_351 => ?_)
          obtain rfl : x_351 = 0 := ex_351.trans (by decide)
          refine lv_iload hx hb dX12_put__79 (lv_at hl_350 1 rfl) ?_
          refine lv_iadd hx hb dX12_put__81 ?_
          refine lv_topi (fun x_352 ex_352 => ?_)
          obtain rfl : x_352 = 0 := ex_352.trans (by decide)
          refine lv_iload hx hb dX12_put__82 (lv_at hl_350 0 rfl) ?_
          refine lv_iadd hx hb dX12_put__84 ?_
          refine lv_topi (fun x_353 ex_353 => ?_)
          obtain rfl : x_353 = 3 := ex_353.trans (by decide)
          refine lv_lload_n hx hb dX12_put__85 rfl (lv_at hl_350 5 rfl) ?_
          refine lv_bipush (v := 16) hx hb dX12_put__86 (by decide) ?_
          refine lv_iload_n hx hb dX12_put__88 rfl (lv_at hl_350 4 rfl) ?_
          refine lv_iconst (v := 1) hx hb dX12_put__89 (by decide) ?_
          refine lv_isub hx hb dX12_put__90 ?_
          refine lv_topi (fun x_354 ex_354 => ?_)
          obtain rfl : x_354 = 3 := ex_354.trans (by decide)
          refine lv_iload hx hb dX12_put__91 (lv_at hl_350 0 rfl) ?_
          refine lv_isub hx hb dX12_put__93 ?_
          refine lv_topi (fun x_355 ex_355 => ?_)
          obtain rfl : x_355 = 0 := ex_355.trans (by decide)
          refine lv_imul hx hb dX12_put__94 ?_
          refine lv_topi (fun x_356 ex_356 => ?_)
          obtain rfl : x_356 = 0 := ex_356.trans (by decide)
          refine lv_lshr (v := (w0 >>> ((0 : Int32).toInt64 &&& 63))) hx hb dX12_put__95 rfl ?_
          refine lv_ldc2 hx hb hown (ht _ tw_2813) dX12_put__96 ?_
          refine lv_land hx hb dX12_put__99 ?_
          refine lv_l2i (v := ((w0 >>> ((0 : Int32).toInt64 &&& 63)) &&& 65535).toInt32) hx hb dX12_put__100 rfl ?_
          refine va_iast hx hb hK_3 hP_349 hD_349 hS_349 3 2 rfl rfl (i := 3) (vpi (by decide)) dX12_put__101 (fun H_357 locs_357 hP_357 hD_357 hS_357 => ?_)
          have hP_357 : va_P (dC, dI) vwCl [(h0, .inr (15, [.int 0, .int 0, .ref h1, .int 0, .int (-1), .ref h2, .ref h3, .ref h4, .ref h5, .ref h6, .ref h7, .ref h8, .ref h9, .ref h10, .ref h11, .ref h12, .ref h13, .ref h14, .ref h15, .ref h16, .ref h17, .ref h18, .ref h19, .ref h20, .ref h21, .ref h22, .ref h23, .ref h24, .ref h25, .ref h26, .ref h27, .int 0, .ref h28, .ref h29, .int 0, .int 0, .int 0, .int 0, .int 0, .int 0, .ref h30, .int 0, .ref h31, .ref h32, .ref h33, .ref h34, .ref h35, .ref h36, .ref h37, .ref h38, .int 0, .int 0, .int 0, .int 0, .ref h39, .ref h40, .ref h41, .int 0, .ref h42, .int 0, .ref h43, .int 0, .int 0, .ref h44, .ref h45, .ref h46, .int 0, .ref h47, .ref h48, .ref h49, .ref h50, .ref h51, .ref h52, .ref h53, .int 0, .ref h54, .int 0, .ref h55, .ref h56, .ref h57, .int 0, .ref h58, .ref h59, .ref h60, .ref h61, .int 0, .ref h62, .ref h63, .ref h64, .ref h65, .int 0, .int 0, .int 0, .int 0, .int 0, .int 0, .int 0, .int 0, .int 0, .ref h66, .int 0, .ref h67, .int 0, .int 0, .int 0, .int 0, .int 0, .ref h68, .int 0, .int 0, .ref h69, .int 0, .ref h70, .int 0, .ref h71, .ref h72, .int 0, .ref h73, .ref h74, .ref h75, .ref h76, .long 0, .int 0, .ref h77, .ref h78, .ref h79, .ref h80, .ref h81, .ref h82, .ref h83, .ref h84, .ref h85, .ref h86, .ref h87, .ref h88, .ref h89, .ref h90, .ref h91, .int 0, .ref h92, .ref h93, .ref h94, .int 0])), (h48, .inl (k0, 4, .inl (fun _ => 0))), (h49, .inl (k1, 4, .inl (fun _ => 0))), (h50, .inl (k2, 400, .inl (upd (upd (upd (upd (fun _ => 0) 0 (((w0 >>> ((48 : Int32).toInt64 &&& 63)) &&& 65535).toInt32)) 1 (((w0 >>> ((32 : Int32).toInt64 &&& 63)) &&& 65535).toInt32)) 2 (((w0 >>> ((16 : Int32).toInt64 &&& 63)) &&& 65535).toInt32)) 3 (((w0 >>> ((0 : Int32).toInt64 &&& 63)) &&& 65535).toInt32))))] H_357 := hP_357
          have hD_357 : va_D A [(h0, .inr (15, [.int 0, .int 0, .ref h1, .int 0, .int (-1), .ref h2, .ref h3, .ref h4, .ref h5, .ref h6, .ref h7, .ref h8, .ref h9, .ref h10, .ref h11, .ref h12, .ref h13, .ref h14, .ref h15, .ref h16, .ref h17, .ref h18, .ref h19, .ref h20, .ref h21, .ref h22, .ref h23, .ref h24, .ref h25, .ref h26, .ref h27, .int 0, .ref h28, .ref h29, .int 0, .int 0, .int 0, .int 0, .int 0, .int 0, .ref h30, .int 0, .ref h31, .ref h32, .ref h33, .ref h34, .ref h35, .ref h36, .ref h37, .ref h38, .int 0, .int 0, .int 0, .int 0, .ref h39, .ref h40, .ref h41, .int 0, .ref h42, .int 0, .ref h43, .int 0, .int 0, .ref h44, .ref h45, .ref h46, .int 0, .ref h47, .ref h48, .ref h49, .ref h50, .ref h51, .ref h52, .ref h53, .int 0, .ref h54, .int 0, .ref h55, .ref h56, .ref h57, .int 0, .ref h58, .ref h59, .ref h60, .ref h61, .int 0, .ref h62, .ref h63, .ref h64, .ref h65, .int 0, .int 0, .int 0, .int 0, .int 0, .int 0, .int 0, .int 0, .int 0, .ref h66, .int 0, .ref h67, .int 0, .int 0, .int 0, .int 0, .int 0, .ref h68, .int 0, .int 0, .ref h69, .int 0, .ref h70, .int 0, .ref h71, .ref h72, .int 0, .ref h73, .ref h74, .ref h75, .ref h76, .long 0, .int 0, .ref h77, .ref h78, .ref h79, .ref h80, .ref h81, .ref h82, .ref h83, .ref h84, .ref h85, .ref h86, .ref h87, .ref h88, .ref h89, .ref h90, .ref h91, .int 0, .ref h92, .ref h93, .ref h94, .int 0])), (h48, .inl (k0, 4, .inl (fun _ => 0))), (h49, .inl (k1, 4, .inl (fun _ => 0))), (h50, .inl (k2, 400, .inl (upd (upd (upd (upd (fun _ => 0) 0 (((w0 >>> ((48 : Int32).toInt64 &&& 63)) &&& 65535).toInt32)) 1 (((w0 >>> ((32 : Int32).toInt64 &&& 63)) &&& 65535).toInt32)) 2 (((w0 >>> ((16 : Int32).toInt64 &&& 63)) &&& 65535).toInt32)) 3 (((w0 >>> ((0 : Int32).toInt64 &&& 63)) &&& 65535).toInt32))))] := hD_357
          clear hP_349 hD_349 hS_349
          refine lv_iinc (v := 4) (lv' := [(6, .int 4), (5, .int 0), (0, .ref h0), (1, .int 0), (2, .int 4), (3, .long w0)]) hx hb dX12_put__102 hl_350 (k := 0) rfl (by decide) (by decide) rfl (fun ls_358 hl_358 => ?_)
          clear hl_350
          refine lv_goto (tgt := 65) hx hb dX12_put__105 (by decide) ?_
          refine lv_iload hx hb dX12_put__65 (lv_at hl_358 0 rfl) ?_
          refine lv_iload_n hx hb dX12_put__67 rfl (lv_at hl_358 4 rfl) ?_
          refine lv_icmp_ge (tgt := 108) hx hb dX12_put__68 (by decide) (fun _ => ?_) (fun c_ => absurd (by decide) c_)
          refine lv_aload_n hx hb dX12_put__108 rfl (lv_at hl_358 2 rfl) ?_
          refine va_get (D := (dC, dI)) (ci := 15) (v := .ref h48) (C := RX12) (T := TX12) (N := 143) hx hb ht inX12 hown hK_3 hP_357 0 rfl rfl 68 (by decide) (ht _ tw_2208) (fun _ h9 => h9) rfl dX12_put__109 ?_
          refine lv_iload_n hx hb dX12_put__112 rfl (lv_at hl_358 3 rfl) ?_
          refine lv_iconst (v := 1) hx hb dX12_put__113 (by decide) ?_
          refine va_zast hx hb hK_3 hP_357 hD_357 hS_357 1 0 rfl rfl (i := 0) (vpi (by decide)) dX12_put__114 (fun H_359 locs_359 hP_359 hD_359 hS_359 => ?_)
          have hP_359 : va_P (dC, dI) vwCl [(h0, .inr (15, [.int 0, .int 0, .ref h1, .int 0, .int (-1), .ref h2, .ref h3, .ref h4, .ref h5, .ref h6, .ref h7, .ref h8, .ref h9, .ref h10, .ref h11, .ref h12, .ref h13, .ref h14, .ref h15, .ref h16, .ref h17, .ref h18, .ref h19, .ref h20, .ref h21, .ref h22, .ref h23, .ref h24, .ref h25, .ref h26, .ref h27, .int 0, .ref h28, .ref h29, .int 0, .int 0, .int 0, .int 0, .int 0, .int 0, .ref h30, .int 0, .ref h31, .ref h32, .ref h33, .ref h34, .ref h35, .ref h36, .ref h37, .ref h38, .int 0, .int 0, .int 0, .int 0, .ref h39, .ref h40, .ref h41, .int 0, .ref h42, .int 0, .ref h43, .int 0, .int 0, .ref h44, .ref h45, .ref h46, .int 0, .ref h47, .ref h48, .ref h49, .ref h50, .ref h51, .ref h52, .ref h53, .int 0, .ref h54, .int 0, .ref h55, .ref h56, .ref h57, .int 0, .ref h58, .ref h59, .ref h60, .ref h61, .int 0, .ref h62, .ref h63, .ref h64, .ref h65, .int 0, .int 0, .int 0, .int 0, .int 0, .int 0, .int 0, .int 0, .int 0, .ref h66, .int 0, .ref h67, .int 0, .int 0, .int 0, .int 0, .int 0, .ref h68, .int 0, .int 0, .ref h69, .int 0, .ref h70, .int 0, .ref h71, .ref h72, .int 0, .ref h73, .ref h74, .ref h75, .ref h76, .long 0, .int 0, .ref h77, .ref h78, .ref h79, .ref h80, .ref h81, .ref h82, .ref h83, .ref h84, .ref h85, .ref h86, .ref h87, .ref h88, .ref h89, .ref h90, .ref h91, .int 0, .ref h92, .ref h93, .ref h94, .int 0])), (h48, .inl (k0, 4, .inl (upd (fun _ => 0) 0 1))), (h49, .inl (k1, 4, .inl (fun _ => 0))), (h50, .inl (k2, 400, .inl (upd (upd (upd (upd (fun _ => 0) 0 (((w0 >>> ((48 : Int32).toInt64 &&& 63)) &&& 65535).toInt32)) 1 (((w0 >>> ((32 : Int32).toInt64 &&& 63)) &&& 65535).toInt32)) 2 (((w0 >>> ((16 : Int32).toInt64 &&& 63)) &&& 65535).toInt32)) 3 (((w0 >>> ((0 : Int32).toInt64 &&& 63)) &&& 65535).toInt32))))] H_359 := hP_359
          have hD_359 : va_D A [(h0, .inr (15, [.int 0, .int 0, .ref h1, .int 0, .int (-1), .ref h2, .ref h3, .ref h4, .ref h5, .ref h6, .ref h7, .ref h8, .ref h9, .ref h10, .ref h11, .ref h12, .ref h13, .ref h14, .ref h15, .ref h16, .ref h17, .ref h18, .ref h19, .ref h20, .ref h21, .ref h22, .ref h23, .ref h24, .ref h25, .ref h26, .ref h27, .int 0, .ref h28, .ref h29, .int 0, .int 0, .int 0, .int 0, .int 0, .int 0, .ref h30, .int 0, .ref h31, .ref h32, .ref h33, .ref h34, .ref h35, .ref h36, .ref h37, .ref h38, .int 0, .int 0, .int 0, .int 0, .ref h39, .ref h40, .ref h41, .int 0, .ref h42, .int 0, .ref h43, .int 0, .int 0, .ref h44, .ref h45, .ref h46, .int 0, .ref h47, .ref h48, .ref h49, .ref h50, .ref h51, .ref h52, .ref h53, .int 0, .ref h54, .int 0, .ref h55, .ref h56, .ref h57, .int 0, .ref h58, .ref h59, .ref h60, .ref h61, .int 0, .ref h62, .ref h63, .ref h64, .ref h65, .int 0, .int 0, .int 0, .int 0, .int 0, .int 0, .int 0, .int 0, .int 0, .ref h66, .int 0, .ref h67, .int 0, .int 0, .int 0, .int 0, .int 0, .ref h68, .int 0, .int 0, .ref h69, .int 0, .ref h70, .int 0, .ref h71, .ref h72, .int 0, .ref h73, .ref h74, .ref h75, .ref h76, .long 0, .int 0, .ref h77, .ref h78, .ref h79, .ref h80, .ref h81, .ref h82, .ref h83, .ref h84, .ref h85, .ref h86, .ref h87, .ref h88, .ref h89, .ref h90, .ref h91, .int 0, .ref h92, .ref h93, .ref h94, .int 0])), (h48, .inl (k0, 4, .inl (upd (fun _ => 0) 0 1))), (h49, .inl (k1, 4, .inl (fun _ => 0))), (h50, .inl (k2, 400, .inl (upd (upd (upd (upd (fun _ => 0) 0 (((w0 >>> ((48 : Int32).toInt64 &&& 63)) &&& 65535).toInt32)) 1 (((w0 >>> ((32 : Int32).toInt64 &&& 63)) &&& 65535).toInt32)) 2 (((w0 >>> ((16 : Int32).toInt64 &&& 63)) &&& 65535).toInt32)) 3 (((w0 >>> ((0 : Int32).toInt64 &&& 63)) &&& 65535).toInt32))))] := hD_359
          clear hP_357 hD_357 hS_357
          refine lv_aload_n hx hb dX12_put__115 rfl (lv_at hl_358 2 rfl) ?_
          refine va_get (D := (dC, dI)) (ci := 15) (v := .ref h49) (C := RX12) (T := TX12) (N := 143) hx hb ht inX12 hown hK_3 hP_359 0 rfl rfl 69 (by decide) (ht _ tw_2209) (fun _ h9 => h9) rfl dX12_put__116 ?_
          refine lv_iload_n hx hb dX12_put__119 rfl (lv_at hl_358 3 rfl) ?_
          refine lv_iload hx hb dX12_put__120 (lv_at hl_358 1 rfl) ?_
          refine lv_iload_n hx hb dX12_put__122 rfl (lv_at hl_358 4 rfl) ?_
          refine lv_iadd hx hb dX12_put__123 ?_
          refine lv_topi (fun x_360 ex_360 => ?_)
          obtain rfl : x_360 = 4 := ex_360.trans (by decide)
          refine va_iast hx hb hK_3 hP_359 hD_359 hS_359 2 1 rfl rfl (i := 0) (vpi (by decide)) dX12_put__124 (fun H_361 locs_361 hP_361 hD_361 hS_361 => ?_)
          have hP_361 : va_P (dC, dI) vwCl [(h0, .inr (15, [.int 0, .int 0, .ref h1, .int 0, .int (-1), .ref h2, .ref h3, .ref h4, .ref h5, .ref h6, .ref h7, .ref h8, .ref h9, .ref h10, .ref h11, .ref h12, .ref h13, .ref h14, .ref h15, .ref h16, .ref h17, .ref h18, .ref h19, .ref h20, .ref h21, .ref h22, .ref h23, .ref h24, .ref h25, .ref h26, .ref h27, .int 0, .ref h28, .ref h29, .int 0, .int 0, .int 0, .int 0, .int 0, .int 0, .ref h30, .int 0, .ref h31, .ref h32, .ref h33, .ref h34, .ref h35, .ref h36, .ref h37, .ref h38, .int 0, .int 0, .int 0, .int 0, .ref h39, .ref h40, .ref h41, .int 0, .ref h42, .int 0, .ref h43, .int 0, .int 0, .ref h44, .ref h45, .ref h46, .int 0, .ref h47, .ref h48, .ref h49, .ref h50, .ref h51, .ref h52, .ref h53, .int 0, .ref h54, .int 0, .ref h55, .ref h56, .ref h57, .int 0, .ref h58, .ref h59, .ref h60, .ref h61, .int 0, .ref h62, .ref h63, .ref h64, .ref h65, .int 0, .int 0, .int 0, .int 0, .int 0, .int 0, .int 0, .int 0, .int 0, .ref h66, .int 0, .ref h67, .int 0, .int 0, .int 0, .int 0, .int 0, .ref h68, .int 0, .int 0, .ref h69, .int 0, .ref h70, .int 0, .ref h71, .ref h72, .int 0, .ref h73, .ref h74, .ref h75, .ref h76, .long 0, .int 0, .ref h77, .ref h78, .ref h79, .ref h80, .ref h81, .ref h82, .ref h83, .ref h84, .ref h85, .ref h86, .ref h87, .ref h88, .ref h89, .ref h90, .ref h91, .int 0, .ref h92, .ref h93, .ref h94, .int 0])), (h48, .inl (k0, 4, .inl (upd (fun _ => 0) 0 1))), (h49, .inl (k1, 4, .inl (upd (fun _ => 0) 0 4))), (h50, .inl (k2, 400, .inl (upd (upd (upd (upd (fun _ => 0) 0 (((w0 >>> ((48 : Int32).toInt64 &&& 63)) &&& 65535).toInt32)) 1 (((w0 >>> ((32 : Int32).toInt64 &&& 63)) &&& 65535).toInt32)) 2 (((w0 >>> ((16 : Int32).toInt64 &&& 63)) &&& 65535).toInt32)) 3 (((w0 >>> ((0 : Int32).toInt64 &&& 63)) &&& 65535).toInt32))))] H_361 := hP_361
          have hD_361 : va_D A [(h0, .inr (15, [.int 0, .int 0, .ref h1, .int 0, .int (-1), .ref h2, .ref h3, .ref h4, .ref h5, .ref h6, .ref h7, .ref h8, .ref h9, .ref h10, .ref h11, .ref h12, .ref h13, .ref h14, .ref h15, .ref h16, .ref h17, .ref h18, .ref h19, .ref h20, .ref h21, .ref h22, .ref h23, .ref h24, .ref h25, .ref h26, .ref h27, .int 0, .ref h28, .ref h29, .int 0, .int 0, .int 0, .int 0, .int 0, .int 0, .ref h30, .int 0, .ref h31, .ref h32, .ref h33, .ref h34, .ref h35, .ref h36, .ref h37, .ref h38, .int 0, .int 0, .int 0, .int 0, .ref h39, .ref h40, .ref h41, .int 0, .ref h42, .int 0, .ref h43, .int 0, .int 0, .ref h44, .ref h45, .ref h46, .int 0, .ref h47, .ref h48, .ref h49, .ref h50, .ref h51, .ref h52, .ref h53, .int 0, .ref h54, .int 0, .ref h55, .ref h56, .ref h57, .int 0, .ref h58, .ref h59, .ref h60, .ref h61, .int 0, .ref h62, .ref h63, .ref h64, .ref h65, .int 0, .int 0, .int 0, .int 0, .int 0, .int 0, .int 0, .int 0, .int 0, .ref h66, .int 0, .ref h67, .int 0, .int 0, .int 0, .int 0, .int 0, .ref h68, .int 0, .int 0, .ref h69, .int 0, .ref h70, .int 0, .ref h71, .ref h72, .int 0, .ref h73, .ref h74, .ref h75, .ref h76, .long 0, .int 0, .ref h77, .ref h78, .ref h79, .ref h80, .ref h81, .ref h82, .ref h83, .ref h84, .ref h85, .ref h86, .ref h87, .ref h88, .ref h89, .ref h90, .ref h91, .int 0, .ref h92, .ref h93, .ref h94, .int 0])), (h48, .inl (k0, 4, .inl (upd (fun _ => 0) 0 1))), (h49, .inl (k1, 4, .inl (upd (fun _ => 0) 0 4))), (h50, .inl (k2, 400, .inl (upd (upd (upd (upd (fun _ => 0) 0 (((w0 >>> ((48 : Int32).toInt64 &&& 63)) &&& 65535).toInt32)) 1 (((w0 >>> ((32 : Int32).toInt64 &&& 63)) &&& 65535).toInt32)) 2 (((w0 >>> ((16 : Int32).toInt64 &&& 63)) &&& 65535).toInt32)) 3 (((w0 >>> ((0 : Int32).toInt64 &&& 63)) &&& 65535).toInt32))))] := hD_361
          clear hP_359 hD_359 hS_359
          refine lv_aload_n hx hb dX12_put__125 rfl (lv_at hl_358 2 rfl) ?_
          refine lv_aload_n hx hb dX12_put__126 rfl (lv_at hl_358 2 rfl) ?_
          refine va_get (D := (dC, dI)) (ci := 15) (v := .int 0) (C := RX12) (T := TX12) (N := 143) hx hb ht inX12 hown hK_3 hP_361 0 rfl rfl 102 (by decide) (ht _ tw_2242) (fun _ h9 => h9) rfl dX12_put__127 ?_
          refine lv_if_eq (tgt := 145) hx hb dX12_put__130 (by decide) (fun _ => ?_) (fun c_ => absurd (by decide) c_)
          refine lv_iconst (v := 0) hx hb dX12_put__145 (by decide) ?_
          refine va_put (D := (dC, dI)) (ci := 15) (v := .int 0) (ty := .boolean) (C := RX12) (T := TX12) (N := 143) hx hb ht inX12 tyX12 tyX12_ok nmX12 hown hK_3 hP_361 hD_361 hS_361 0 rfl rfl 102 (by decide) (ht _ tw_2242) (fun _ h9 => h9) rfl (by decide +kernel) rfl rfl (Nat.le_of_ble_eq_true rfl) dX12_put__146 (fun H_362 locs_362 hP_362 hD_362 hS_362 => ?_)
          have hP_362 : va_P (dC, dI) vwCl [(h0, .inr (15, [.int 0, .int 0, .ref h1, .int 0, .int (-1), .ref h2, .ref h3, .ref h4, .ref h5, .ref h6, .ref h7, .ref h8, .ref h9, .ref h10, .ref h11, .ref h12, .ref h13, .ref h14, .ref h15, .ref h16, .ref h17, .ref h18, .ref h19, .ref h20, .ref h21, .ref h22, .ref h23, .ref h24, .ref h25, .ref h26, .ref h27, .int 0, .ref h28, .ref h29, .int 0, .int 0, .int 0, .int 0, .int 0, .int 0, .ref h30, .int 0, .ref h31, .ref h32, .ref h33, .ref h34, .ref h35, .ref h36, .ref h37, .ref h38, .int 0, .int 0, .int 0, .int 0, .ref h39, .ref h40, .ref h41, .int 0, .ref h42, .int 0, .ref h43, .int 0, .int 0, .ref h44, .ref h45, .ref h46, .int 0, .ref h47, .ref h48, .ref h49, .ref h50, .ref h51, .ref h52, .ref h53, .int 0, .ref h54, .int 0, .ref h55, .ref h56, .ref h57, .int 0, .ref h58, .ref h59, .ref h60, .ref h61, .int 0, .ref h62, .ref h63, .ref h64, .ref h65, .int 0, .int 0, .int 0, .int 0, .int 0, .int 0, .int 0, .int 0, .int 0, .ref h66, .int 0, .ref h67, .int 0, .int 0, .int 0, .int 0, .int 0, .ref h68, .int 0, .int 0, .ref h69, .int 0, .ref h70, .int 0, .ref h71, .ref h72, .int 0, .ref h73, .ref h74, .ref h75, .ref h76, .long 0, .int 0, .ref h77, .ref h78, .ref h79, .ref h80, .ref h81, .ref h82, .ref h83, .ref h84, .ref h85, .ref h86, .ref h87, .ref h88, .ref h89, .ref h90, .ref h91, .int 0, .ref h92, .ref h93, .ref h94, .int 0])), (h48, .inl (k0, 4, .inl (upd (fun _ => 0) 0 1))), (h49, .inl (k1, 4, .inl (upd (fun _ => 0) 0 4))), (h50, .inl (k2, 400, .inl (upd (upd (upd (upd (fun _ => 0) 0 (((w0 >>> ((48 : Int32).toInt64 &&& 63)) &&& 65535).toInt32)) 1 (((w0 >>> ((32 : Int32).toInt64 &&& 63)) &&& 65535).toInt32)) 2 (((w0 >>> ((16 : Int32).toInt64 &&& 63)) &&& 65535).toInt32)) 3 (((w0 >>> ((0 : Int32).toInt64 &&& 63)) &&& 65535).toInt32))))] H_362 := hP_362
          have hD_362 : va_D A [(h0, .inr (15, [.int 0, .int 0, .ref h1, .int 0, .int (-1), .ref h2, .ref h3, .ref h4, .ref h5, .ref h6, .ref h7, .ref h8, .ref h9, .ref h10, .ref h11, .ref h12, .ref h13, .ref h14, .ref h15, .ref h16, .ref h17, .ref h18, .ref h19, .ref h20, .ref h21, .ref h22, .ref h23, .ref h24, .ref h25, .ref h26, .ref h27, .int 0, .ref h28, .ref h29, .int 0, .int 0, .int 0, .int 0, .int 0, .int 0, .ref h30, .int 0, .ref h31, .ref h32, .ref h33, .ref h34, .ref h35, .ref h36, .ref h37, .ref h38, .int 0, .int 0, .int 0, .int 0, .ref h39, .ref h40, .ref h41, .int 0, .ref h42, .int 0, .ref h43, .int 0, .int 0, .ref h44, .ref h45, .ref h46, .int 0, .ref h47, .ref h48, .ref h49, .ref h50, .ref h51, .ref h52, .ref h53, .int 0, .ref h54, .int 0, .ref h55, .ref h56, .ref h57, .int 0, .ref h58, .ref h59, .ref h60, .ref h61, .int 0, .ref h62, .ref h63, .ref h64, .ref h65, .int 0, .int 0, .int 0, .int 0, .int 0, .int 0, .int 0, .int 0, .int 0, .ref h66, .int 0, .ref h67, .int 0, .int 0, .int 0, .int 0, .int 0, .ref h68, .int 0, .int 0, .ref h69, .int 0, .ref h70, .int 0, .ref h71, .ref h72, .int 0, .ref h73, .ref h74, .ref h75, .ref h76, .long 0, .int 0, .ref h77, .ref h78, .ref h79, .ref h80, .ref h81, .ref h82, .ref h83, .ref h84, .ref h85, .ref h86, .ref h87, .ref h88, .ref h89, .ref h90, .ref h91, .int 0, .ref h92, .ref h93, .ref h94, .int 0])), (h48, .inl (k0, 4, .inl (upd (fun _ => 0) 0 1))), (h49, .inl (k1, 4, .inl (upd (fun _ => 0) 0 4))), (h50, .inl (k2, 400, .inl (upd (upd (upd (upd (fun _ => 0) 0 (((w0 >>> ((48 : Int32).toInt64 &&& 63)) &&& 65535).toInt32)) 1 (((w0 >>> ((32 : Int32).toInt64 &&& 63)) &&& 65535).toInt32)) 2 (((w0 >>> ((16 : Int32).toInt64 &&& 63)) &&& 65535).toInt32)) 3 (((w0 >>> ((0 : Int32).toInt64 &&& 63)) &&& 65535).toInt32))))] := hD_362
          clear hP_361 hD_361 hS_361
          refine lv_iload hx hb dX12_put__149 (lv_at hl_358 1 rfl) ?_
          refine lv_iload_n hx hb dX12_put__151 rfl (lv_at hl_358 4 rfl) ?_
          refine lv_iadd hx hb dX12_put__152 ?_
          refine lv_topi (fun x_363 ex_363 => ?_)
          obtain rfl : x_363 = 4 := ex_363.trans (by decide)
          have hP9 := hP_362.sub (ws' := []) [] rfl
          have hD9 := hD_362.sub (ws' := []) [] (by decide) rfl
          have hK9 := hK_3.sub (tys' := []) [] rfl
          refine W.widen (k := 0) (n := 0) (by decide) (by decide) ?_
          exact W.iret (v := 4) hx hb hr (fun t9 ht9 hW9 => ⟨⟨4, 4, rfl, (Or.inr (Or.inr (Or.inr (Or.inr ⟨rfl, rfl, cc_2_0, cc_2_1, cc_3_0, cc_3_1⟩)))), ⟨by rw [ht9]; exact hP9, va_K.moved hW9.alike hK9, hD9⟩⟩, hS_362.F ht9⟩) hS_362.2.2 dX12_put__153
        · refine va_zald hx hb hK_3 hP_3 1 0 rfl rfl (i := 1) (vpi (by decide)) dX12_put__34 ?_
          refine W.eq (g2 := F0 m 35 ls [.int 0]) rfl ?_
          refine lv_if_eq (tgt := 47) hx hb dX12_put__35 (by decide) (fun _ => ?_) (fun c_ => absurd (by decide) c_)
          refine lv_iconst (v := 0) hx hb dX12_put__47 (by decide) ?_
          refine lv_istore (lv' := [(5, .int 0), (0, .ref h0), (1, .int 1), (2, .int 4), (3, .long w0)]) hx hb dX12_put__48 hl (by decide) rfl (fun ls_364 hl_364 => ?_)
          clear hl
          refine lv_iload hx hb dX12_put__50 (lv_at hl_364 0 rfl) ?_
          refine lv_iload_n hx hb dX12_put__52 rfl (lv_at hl_364 3 rfl) ?_
          refine lv_iadd hx hb dX12_put__53 ?_
          refine lv_topi (fun x_365 ex_365 => ?_)
          obtain rfl : x_365 = 4 := ex_365.trans (by decide)
          refine lv_bipush (v := 100) hx hb dX12_put__54 (by decide) ?_
          refine lv_icmp_le (tgt := 62) hx hb dX12_put__56 (by decide) (fun _ => ?_) (fun c_ => absurd (by decide) c_)
          refine lv_iconst (v := 0) hx hb dX12_put__62 (by decide) ?_
          refine lv_istore (lv' := [(6, .int 0), (5, .int 0), (0, .ref h0), (1, .int 1), (2, .int 4), (3, .long w0)]) hx hb dX12_put__63 hl_364 (by decide) rfl (fun ls_366 hl_366 => ?_)
          clear hl_364
          refine lv_iload hx hb dX12_put__65 (lv_at hl_366 0 rfl) ?_
          refine lv_iload_n hx hb dX12_put__67 rfl (lv_at hl_366 4 rfl) ?_
          refine lv_icmp_ge (tgt := 108) hx hb dX12_put__68 (by decide) (fun c_ => absurd c_ (by decide)) (fun _ => ?_)
          refine lv_aload_n hx hb dX12_put__71 rfl (lv_at hl_366 2 rfl) ?_
          refine va_get (D := (dC, dI)) (ci := 15) (v := .ref h50) (C := RX12) (T := TX12) (N := 143) hx hb ht inX12 hown hK_3 hP_3 0 rfl rfl 70 (by decide) (ht _ tw_2210) (fun _ h9 => h9) rfl dX12_put__72 ?_
          refine lv_bipush (v := 100) hx hb dX12_put__75 (by decide) ?_
          refine lv_iload_n hx hb dX12_put__77 rfl (lv_at hl_366 3 rfl) ?_
          refine lv_imul hx hb dX12_put__78 ?_
          refine lv_topi (fun x_367 ex_367 => ?_)
          obtain rfl : x_367 = 100 := ex_367.trans (by decide)
          refine lv_iload hx hb dX12_put__79 (lv_at hl_366 1 rfl) ?_
          refine lv_iadd hx hb dX12_put__81 ?_
          refine lv_topi (fun x_368 ex_368 => ?_)
          obtain rfl : x_368 = 100 := ex_368.trans (by decide)
          refine lv_iload hx hb dX12_put__82 (lv_at hl_366 0 rfl) ?_
          refine lv_iadd hx hb dX12_put__84 ?_
          refine lv_topi (fun x_369 ex_369 => ?_)
          obtain rfl : x_369 = 100 := ex_369.trans (by decide)
          refine lv_lload_n hx hb dX12_put__85 rfl (lv_at hl_366 5 rfl) ?_
          refine lv_bipush (v := 16) hx hb dX12_put__86 (by decide) ?_
          refine lv_iload_n hx hb dX12_put__88 rfl (lv_at hl_366 4 rfl) ?_
          refine lv_iconst (v := 1) hx hb dX12_put__89 (by decide) ?_
          refine lv_isub hx hb dX12_put__90 ?_
          refine lv_topi (fun x_370 ex_370 => ?_)
          obtain rfl : x_370 = 3 := ex_370.trans (by decide)
          refine lv_iload hx hb dX12_put__91 (lv_at hl_366 0 rfl) ?_
          refine lv_isub hx hb dX12_put__93 ?_
          refine lv_topi (fun x_371 ex_371 => ?_)
          obtain rfl : x_371 = 3 := ex_371.trans (by decide)
          refine lv_imul hx hb dX12_put__94 ?_
          refine lv_topi (fun x_372 ex_372 => ?_)
          obtain rfl : x_372 = 48 := ex_372.trans (by decide)
          refine lv_lshr (v := (w0 >>> ((48 : Int32).toInt64 &&& 63))) hx hb dX12_put__95 rfl ?_
          refine lv_ldc2 hx hb hown (ht _ tw_2813) dX12_put__96 ?_
          refine lv_land hx hb dX12_put__99 ?_
          refine lv_l2i (v := ((w0 >>> ((48 : Int32).toInt64 &&& 63)) &&& 65535).toInt32) hx hb dX12_put__100 rfl ?_
          refine va_iast hx hb hK_3 hP_3 hD_3 hS_3 3 2 rfl rfl (i := 100) (vpi (by decide)) dX12_put__101 (fun H_373 locs_373 hP_373 hD_373 hS_373 => ?_)
          have hP_373 : va_P (dC, dI) vwCl [(h0, .inr (15, [.int 0, .int 0, .ref h1, .int 0, .int (-1), .ref h2, .ref h3, .ref h4, .ref h5, .ref h6, .ref h7, .ref h8, .ref h9, .ref h10, .ref h11, .ref h12, .ref h13, .ref h14, .ref h15, .ref h16, .ref h17, .ref h18, .ref h19, .ref h20, .ref h21, .ref h22, .ref h23, .ref h24, .ref h25, .ref h26, .ref h27, .int 0, .ref h28, .ref h29, .int 0, .int 0, .int 0, .int 0, .int 0, .int 0, .ref h30, .int 0, .ref h31, .ref h32, .ref h33, .ref h34, .ref h35, .ref h36, .ref h37, .ref h38, .int 0, .int 0, .int 0, .int 0, .ref h39, .ref h40, .ref h41, .int 0, .ref h42, .int 0, .ref h43, .int 0, .int 0, .ref h44, .ref h45, .ref h46, .int 0, .ref h47, .ref h48, .ref h49, .ref h50, .ref h51, .ref h52, .ref h53, .int 0, .ref h54, .int 0, .ref h55, .ref h56, .ref h57, .int 0, .ref h58, .ref h59, .ref h60, .ref h61, .int 0, .ref h62, .ref h63, .ref h64, .ref h65, .int 0, .int 0, .int 0, .int 0, .int 0, .int 0, .int 0, .int 0, .int 0, .ref h66, .int 0, .ref h67, .int 0, .int 0, .int 0, .int 0, .int 0, .ref h68, .int 0, .int 0, .ref h69, .int 0, .ref h70, .int 0, .ref h71, .ref h72, .int 0, .ref h73, .ref h74, .ref h75, .ref h76, .long 0, .int 0, .ref h77, .ref h78, .ref h79, .ref h80, .ref h81, .ref h82, .ref h83, .ref h84, .ref h85, .ref h86, .ref h87, .ref h88, .ref h89, .ref h90, .ref h91, .int 0, .ref h92, .ref h93, .ref h94, .int 0])), (h48, .inl (k0, 4, .inl (fun _ => 0))), (h49, .inl (k1, 4, .inl (fun _ => 0))), (h50, .inl (k2, 400, .inl (upd (fun _ => 0) 100 (((w0 >>> ((48 : Int32).toInt64 &&& 63)) &&& 65535).toInt32))))] H_373 := hP_373
          have hD_373 : va_D A [(h0, .inr (15, [.int 0, .int 0, .ref h1, .int 0, .int (-1), .ref h2, .ref h3, .ref h4, .ref h5, .ref h6, .ref h7, .ref h8, .ref h9, .ref h10, .ref h11, .ref h12, .ref h13, .ref h14, .ref h15, .ref h16, .ref h17, .ref h18, .ref h19, .ref h20, .ref h21, .ref h22, .ref h23, .ref h24, .ref h25, .ref h26, .ref h27, .int 0, .ref h28, .ref h29, .int 0, .int 0, .int 0, .int 0, .int 0, .int 0, .ref h30, .int 0, .ref h31, .ref h32, .ref h33, .ref h34, .ref h35, .ref h36, .ref h37, .ref h38, .int 0, .int 0, .int 0, .int 0, .ref h39, .ref h40, .ref h41, .int 0, .ref h42, .int 0, .ref h43, .int 0, .int 0, .ref h44, .ref h45, .ref h46, .int 0, .ref h47, .ref h48, .ref h49, .ref h50, .ref h51, .ref h52, .ref h53, .int 0, .ref h54, .int 0, .ref h55, .ref h56, .ref h57, .int 0, .ref h58, .ref h59, .ref h60, .ref h61, .int 0, .ref h62, .ref h63, .ref h64, .ref h65, .int 0, .int 0, .int 0, .int 0, .int 0, .int 0, .int 0, .int 0, .int 0, .ref h66, .int 0, .ref h67, .int 0, .int 0, .int 0, .int 0, .int 0, .ref h68, .int 0, .int 0, .ref h69, .int 0, .ref h70, .int 0, .ref h71, .ref h72, .int 0, .ref h73, .ref h74, .ref h75, .ref h76, .long 0, .int 0, .ref h77, .ref h78, .ref h79, .ref h80, .ref h81, .ref h82, .ref h83, .ref h84, .ref h85, .ref h86, .ref h87, .ref h88, .ref h89, .ref h90, .ref h91, .int 0, .ref h92, .ref h93, .ref h94, .int 0])), (h48, .inl (k0, 4, .inl (fun _ => 0))), (h49, .inl (k1, 4, .inl (fun _ => 0))), (h50, .inl (k2, 400, .inl (upd (fun _ => 0) 100 (((w0 >>> ((48 : Int32).toInt64 &&& 63)) &&& 65535).toInt32))))] := hD_373
          clear hP_3 hD_3 hS_3
          refine lv_iinc (v := 1) (lv' := [(6, .int 1), (5, .int 0), (0, .ref h0), (1, .int 1), (2, .int 4), (3, .long w0)]) hx hb dX12_put__102 hl_366 (k := 0) rfl (by decide) (by decide) rfl (fun ls_374 hl_374 => ?_)
          clear hl_366
          refine lv_goto (tgt := 65) hx hb dX12_put__105 (by decide) ?_
          refine lv_iload hx hb dX12_put__65 (lv_at hl_374 0 rfl) ?_
          refine lv_iload_n hx hb dX12_put__67 rfl (lv_at hl_374 4 rfl) ?_
          refine lv_icmp_ge (tgt := 108) hx hb dX12_put__68 (by decide) (fun c_ => absurd c_ (by decide)) (fun _ => ?_)
          refine lv_aload_n hx hb dX12_put__71 rfl (lv_at hl_374 2 rfl) ?_
          refine va_get (D := (dC, dI)) (ci := 15) (v := .ref h50) (C := RX12) (T := TX12) (N := 143) hx hb ht inX12 hown hK_3 hP_373 0 rfl rfl 70 (by decide) (ht _ tw_2210) (fun _ h9 => h9) rfl dX12_put__72 ?_
          refine lv_bipush (v := 100) hx hb dX12_put__75 (by decide) ?_
          refine lv_iload_n hx hb dX12_put__77 rfl (lv_at hl_374 3 rfl) ?_
          refine lv_imul hx hb dX12_put__78 ?_
          refine lv_topi (fun x_375 ex_375 => ?_)
          obtain rfl : x_375 = 100 := ex_375.trans (by decide)
          refine lv_iload hx hb dX12_put__79 (lv_at hl_374 1 rfl) ?_
          refine lv_iadd hx hb dX12_put__81 ?_
          refine lv_topi (fun x_376 ex_376 => ?_)
          obtain rfl : x_376 = 100 := ex_376.trans (by decide)
          refine lv_iload hx hb dX12_put__82 (lv_at hl_374 0 rfl) ?_
          refine lv_iadd hx hb dX12_put__84 ?_
          refine lv_topi (fun x_377 ex_377 => ?_)
          obtain rfl : x_377 = 101 := ex_377.trans (by decide)
          refine lv_lload_n hx hb dX12_put__85 rfl (lv_at hl_374 5 rfl) ?_
          refine lv_bipush (v := 16) hx hb dX12_put__86 (by decide) ?_
          refine lv_iload_n hx hb dX12_put__88 rfl (lv_at hl_374 4 rfl) ?_
          refine lv_iconst (v := 1) hx hb dX12_put__89 (by decide) ?_
          refine lv_isub hx hb dX12_put__90 ?_
          refine lv_topi (fun x_378 ex_378 => ?_)
          obtain rfl : x_378 = 3 := ex_378.trans (by decide)
          refine lv_iload hx hb dX12_put__91 (lv_at hl_374 0 rfl) ?_
          refine lv_isub hx hb dX12_put__93 ?_
          refine lv_topi (fun x_379 ex_379 => ?_)
          obtain rfl : x_379 = 2 := ex_379.trans (by decide)
          refine lv_imul hx hb dX12_put__94 ?_
          refine lv_topi (fun x_380 ex_380 => ?_)
          obtain rfl : x_380 = 32 := ex_380.trans (by decide)
          refine lv_lshr (v := (w0 >>> ((32 : Int32).toInt64 &&& 63))) hx hb dX12_put__95 rfl ?_
          refine lv_ldc2 hx hb hown (ht _ tw_2813) dX12_put__96 ?_
          refine lv_land hx hb dX12_put__99 ?_
          refine lv_l2i (v := ((w0 >>> ((32 : Int32).toInt64 &&& 63)) &&& 65535).toInt32) hx hb dX12_put__100 rfl ?_
          refine va_iast hx hb hK_3 hP_373 hD_373 hS_373 3 2 rfl rfl (i := 101) (vpi (by decide)) dX12_put__101 (fun H_381 locs_381 hP_381 hD_381 hS_381 => ?_)
          have hP_381 : va_P (dC, dI) vwCl [(h0, .inr (15, [.int 0, .int 0, .ref h1, .int 0, .int (-1), .ref h2, .ref h3, .ref h4, .ref h5, .ref h6, .ref h7, .ref h8, .ref h9, .ref h10, .ref h11, .ref h12, .ref h13, .ref h14, .ref h15, .ref h16, .ref h17, .ref h18, .ref h19, .ref h20, .ref h21, .ref h22, .ref h23, .ref h24, .ref h25, .ref h26, .ref h27, .int 0, .ref h28, .ref h29, .int 0, .int 0, .int 0, .int 0, .int 0, .int 0, .ref h30, .int 0, .ref h31, .ref h32, .ref h33, .ref h34, .ref h35, .ref h36, .ref h37, .ref h38, .int 0, .int 0, .int 0, .int 0, .ref h39, .ref h40, .ref h41, .int 0, .ref h42, .int 0, .ref h43, .int 0, .int 0, .ref h44, .ref h45, .ref h46, .int 0, .ref h47, .ref h48, .ref h49, .ref h50, .ref h51, .ref h52, .ref h53, .int 0, .ref h54, .int 0, .ref h55, .ref h56, .ref h57, .int 0, .ref h58, .ref h59, .ref h60, .ref h61, .int 0, .ref h62, .ref h63, .ref h64, .ref h65, .int 0, .int 0, .int 0, .int 0, .int 0, .int 0, .int 0, .int 0, .int 0, .ref h66, .int 0, .ref h67, .int 0, .int 0, .int 0, .int 0, .int 0, .ref h68, .int 0, .int 0, .ref h69, .int 0, .ref h70, .int 0, .ref h71, .ref h72, .int 0, .ref h73, .ref h74, .ref h75, .ref h76, .long 0, .int 0, .ref h77, .ref h78, .ref h79, .ref h80, .ref h81, .ref h82, .ref h83, .ref h84, .ref h85, .ref h86, .ref h87, .ref h88, .ref h89, .ref h90, .ref h91, .int 0, .ref h92, .ref h93, .ref h94, .int 0])), (h48, .inl (k0, 4, .inl (fun _ => 0))), (h49, .inl (k1, 4, .inl (fun _ => 0))), (h50, .inl (k2, 400, .inl (upd (upd (fun _ => 0) 100 (((w0 >>> ((48 : Int32).toInt64 &&& 63)) &&& 65535).toInt32)) 101 (((w0 >>> ((32 : Int32).toInt64 &&& 63)) &&& 65535).toInt32))))] H_381 := hP_381
          have hD_381 : va_D A [(h0, .inr (15, [.int 0, .int 0, .ref h1, .int 0, .int (-1), .ref h2, .ref h3, .ref h4, .ref h5, .ref h6, .ref h7, .ref h8, .ref h9, .ref h10, .ref h11, .ref h12, .ref h13, .ref h14, .ref h15, .ref h16, .ref h17, .ref h18, .ref h19, .ref h20, .ref h21, .ref h22, .ref h23, .ref h24, .ref h25, .ref h26, .ref h27, .int 0, .ref h28, .ref h29, .int 0, .int 0, .int 0, .int 0, .int 0, .int 0, .ref h30, .int 0, .ref h31, .ref h32, .ref h33, .ref h34, .ref h35, .ref h36, .ref h37, .ref h38, .int 0, .int 0, .int 0, .int 0, .ref h39, .ref h40, .ref h41, .int 0, .ref h42, .int 0, .ref h43, .int 0, .int 0, .ref h44, .ref h45, .ref h46, .int 0, .ref h47, .ref h48, .ref h49, .ref h50, .ref h51, .ref h52, .ref h53, .int 0, .ref h54, .int 0, .ref h55, .ref h56, .ref h57, .int 0, .ref h58, .ref h59, .ref h60, .ref h61, .int 0, .ref h62, .ref h63, .ref h64, .ref h65, .int 0, .int 0, .int 0, .int 0, .int 0, .int 0, .int 0, .int 0, .int 0, .ref h66, .int 0, .ref h67, .int 0, .int 0, .int 0, .int 0, .int 0, .ref h68, .int 0, .int 0, .ref h69, .int 0, .ref h70, .int 0, .ref h71, .ref h72, .int 0, .ref h73, .ref h74, .ref h75, .ref h76, .long 0, .int 0, .ref h77, .ref h78, .ref h79, .ref h80, .ref h81, .ref h82, .ref h83, .ref h84, .ref h85, .ref h86, .ref h87, .ref h88, .ref h89, .ref h90, .ref h91, .int 0, .ref h92, .ref h93, .ref h94, .int 0])), (h48, .inl (k0, 4, .inl (fun _ => 0))), (h49, .inl (k1, 4, .inl (fun _ => 0))), (h50, .inl (k2, 400, .inl (upd (upd (fun _ => 0) 100 (((w0 >>> ((48 : Int32).toInt64 &&& 63)) &&& 65535).toInt32)) 101 (((w0 >>> ((32 : Int32).toInt64 &&& 63)) &&& 65535).toInt32))))] := hD_381
          clear hP_373 hD_373 hS_373
          refine lv_iinc (v := 2) (lv' := [(6, .int 2), (5, .int 0), (0, .ref h0), (1, .int 1), (2, .int 4), (3, .long w0)]) hx hb dX12_put__102 hl_374 (k := 0) rfl (by decide) (by decide) rfl (fun ls_382 hl_382 => ?_)
          clear hl_374
          refine lv_goto (tgt := 65) hx hb dX12_put__105 (by decide) ?_
          refine lv_iload hx hb dX12_put__65 (lv_at hl_382 0 rfl) ?_
          refine lv_iload_n hx hb dX12_put__67 rfl (lv_at hl_382 4 rfl) ?_
          refine lv_icmp_ge (tgt := 108) hx hb dX12_put__68 (by decide) (fun c_ => absurd c_ (by decide)) (fun _ => ?_)
          refine lv_aload_n hx hb dX12_put__71 rfl (lv_at hl_382 2 rfl) ?_
          refine va_get (D := (dC, dI)) (ci := 15) (v := .ref h50) (C := RX12) (T := TX12) (N := 143) hx hb ht inX12 hown hK_3 hP_381 0 rfl rfl 70 (by decide) (ht _ tw_2210) (fun _ h9 => h9) rfl dX12_put__72 ?_
          refine lv_bipush (v := 100) hx hb dX12_put__75 (by decide) ?_
          refine lv_iload_n hx hb dX12_put__77 rfl (lv_at hl_382 3 rfl) ?_
          refine lv_imul hx hb dX12_put__78 ?_
          refine lv_topi (fun x_383 ex_383 => ?_)
          obtain rfl : x_383 = 100 := ex_383.trans (by decide)
          refine lv_iload hx hb dX12_put__79 (lv_at hl_382 1 rfl) ?_
          refine lv_iadd hx hb dX12_put__81 ?_
          refine lv_topi (fun x_384 ex_384 => ?_)
          obtain rfl : x_384 = 100 := ex_384.trans (by decide)
          refine lv_iload hx hb dX12_put__82 (lv_at hl_382 0 rfl) ?_
          refine lv_iadd hx hb dX12_put__84 ?_
          refine lv_topi (fun x_385 ex_385 => ?_)
          obtain rfl : x_385 = 102 := ex_385.trans (by decide)
          refine lv_lload_n hx hb dX12_put__85 rfl (lv_at hl_382 5 rfl) ?_
          refine lv_bipush (v := 16) hx hb dX12_put__86 (by decide) ?_
          refine lv_iload_n hx hb dX12_put__88 rfl (lv_at hl_382 4 rfl) ?_
          refine lv_iconst (v := 1) hx hb dX12_put__89 (by decide) ?_
          refine lv_isub hx hb dX12_put__90 ?_
          refine lv_topi (fun x_386 ex_386 => ?_)
          obtain rfl : x_386 = 3 := ex_386.trans (by decide)
          refine lv_iload hx hb dX12_put__91 (lv_at hl_382 0 rfl) ?_
          refine lv_isub hx hb dX12_put__93 ?_
          refine lv_topi (fun x_387 ex_387 => ?_)
          obtain rfl : x_387 = 1 := ex_387.trans (by decide)
          refine lv_imul hx hb dX12_put__94 ?_
          refine lv_topi (fun x_388 ex_388 => ?_)
          obtain rfl : x_388 = 16 := ex_388.trans (by decide)
          refine lv_lshr (v := (w0 >>> ((16 : Int32).toInt64 &&& 63))) hx hb dX12_put__95 rfl ?_
          refine lv_ldc2 hx hb hown (ht _ tw_2813) dX12_put__96 ?_
          refine lv_land hx hb dX12_put__99 ?_
          refine lv_l2i (v := ((w0 >>> ((16 : Int32).toInt64 &&& 63)) &&& 65535).toInt32) hx hb dX12_put__100 rfl ?_
          refine va_iast hx hb hK_3 hP_381 hD_381 hS_381 3 2 rfl rfl (i := 102) (vpi (by decide)) dX12_put__101 (fun H_389 locs_389 hP_389 hD_389 hS_389 => ?_)
          have hP_389 : va_P (dC, dI) vwCl [(h0, .inr (15, [.int 0, .int 0, .ref h1, .int 0, .int (-1), .ref h2, .ref h3, .ref h4, .ref h5, .ref h6, .ref h7, .ref h8, .ref h9, .ref h10, .ref h11, .ref h12, .ref h13, .ref h14, .ref h15, .ref h16, .ref h17, .ref h18, .ref h19, .ref h20, .ref h21, .ref h22, .ref h23, .ref h24, .ref h25, .ref h26, .ref h27, .int 0, .ref h28, .ref h29, .int 0, .int 0, .int 0, .int 0, .int 0, .int 0, .ref h30, .int 0, .ref h31, .ref h32, .ref h33, .ref h34, .ref h35, .ref h36, .ref h37, .ref h38, .int 0, .int 0, .int 0, .int 0, .ref h39, .ref h40, .ref h41, .int 0, .ref h42, .int 0, .ref h43, .int 0, .int 0, .ref h44, .ref h45, .ref h46, .int 0, .ref h47, .ref h48, .ref h49, .ref h50, .ref h51, .ref h52, .ref h53, .int 0, .ref h54, .int 0, .ref h55, .ref h56, .ref h57, .int 0, .ref h58, .ref h59, .ref h60, .ref h61, .int 0, .ref h62, .ref h63, .ref h64, .ref h65, .int 0, .int 0, .int 0, .int 0, .int 0, .int 0, .int 0, .int 0, .int 0, .ref h66, .int 0, .ref h67, .int 0, .int 0, .int 0, .int 0, .int 0, .ref h68, .int 0, .int 0, .ref h69, .int 0, .ref h70, .int 0, .ref h71, .ref h72, .int 0, .ref h73, .ref h74, .ref h75, .ref h76, .long 0, .int 0, .ref h77, .ref h78, .ref h79, .ref h80, .ref h81, .ref h82, .ref h83, .ref h84, .ref h85, .ref h86, .ref h87, .ref h88, .ref h89, .ref h90, .ref h91, .int 0, .ref h92, .ref h93, .ref h94, .int 0])), (h48, .inl (k0, 4, .inl (fun _ => 0))), (h49, .inl (k1, 4, .inl (fun _ => 0))), (h50, .inl (k2, 400, .inl (upd (upd (upd (fun _ => 0) 100 (((w0 >>> ((48 : Int32).toInt64 &&& 63)) &&& 65535).toInt32)) 101 (((w0 >>> ((32 : Int32).toInt64 &&& 63)) &&& 65535).toInt32)) 102 (((w0 >>> ((16 : Int32).toInt64 &&& 63)) &&& 65535).toInt32))))] H_389 := hP_389
          have hD_389 : va_D A [(h0, .inr (15, [.int 0, .int 0, .ref h1, .int 0, .int (-1), .ref h2, .ref h3, .ref h4, .ref h5, .ref h6, .ref h7, .ref h8, .ref h9, .ref h10, .ref h11, .ref h12, .ref h13, .ref h14, .ref h15, .ref h16, .ref h17, .ref h18, .ref h19, .ref h20, .ref h21, .ref h22, .ref h23, .ref h24, .ref h25, .ref h26, .ref h27, .int 0, .ref h28, .ref h29, .int 0, .int 0, .int 0, .int 0, .int 0, .int 0, .ref h30, .int 0, .ref h31, .ref h32, .ref h33, .ref h34, .ref h35, .ref h36, .ref h37, .ref h38, .int 0, .int 0, .int 0, .int 0, .ref h39, .ref h40, .ref h41, .int 0, .ref h42, .int 0, .ref h43, .int 0, .int 0, .ref h44, .ref h45, .ref h46, .int 0, .ref h47, .ref h48, .ref h49, .ref h50, .ref h51, .ref h52, .ref h53, .int 0, .ref h54, .int 0, .ref h55, .ref h56, .ref h57, .int 0, .ref h58, .ref h59, .ref h60, .ref h61, .int 0, .ref h62, .ref h63, .ref h64, .ref h65, .int 0, .int 0, .int 0, .int 0, .int 0, .int 0, .int 0, .int 0, .int 0, .ref h66, .int 0, .ref h67, .int 0, .int 0, .int 0, .int 0, .int 0, .ref h68, .int 0, .int 0, .ref h69, .int 0, .ref h70, .int 0, .ref h71, .ref h72, .int 0, .ref h73, .ref h74, .ref h75, .ref h76, .long 0, .int 0, .ref h77, .ref h78, .ref h79, .ref h80, .ref h81, .ref h82, .ref h83, .ref h84, .ref h85, .ref h86, .ref h87, .ref h88, .ref h89, .ref h90, .ref h91, .int 0, .ref h92, .ref h93, .ref h94, .int 0])), (h48, .inl (k0, 4, .inl (fun _ => 0))), (h49, .inl (k1, 4, .inl (fun _ => 0))), (h50, .inl (k2, 400, .inl (upd (upd (upd (fun _ => 0) 100 (((w0 >>> ((48 : Int32).toInt64 &&& 63)) &&& 65535).toInt32)) 101 (((w0 >>> ((32 : Int32).toInt64 &&& 63)) &&& 65535).toInt32)) 102 (((w0 >>> ((16 : Int32).toInt64 &&& 63)) &&& 65535).toInt32))))] := hD_389
          clear hP_381 hD_381 hS_381
          refine lv_iinc (v := 3) (lv' := [(6, .int 3), (5, .int 0), (0, .ref h0), (1, .int 1), (2, .int 4), (3, .long w0)]) hx hb dX12_put__102 hl_382 (k := 0) rfl (by decide) (by decide) rfl (fun ls_390 hl_390 => ?_)
          clear hl_382
          refine lv_goto (tgt := 65) hx hb dX12_put__105 (by decide) ?_
          refine lv_iload hx hb dX12_put__65 (lv_at hl_390 0 rfl) ?_
          refine lv_iload_n hx hb dX12_put__67 rfl (lv_at hl_390 4 rfl) ?_
          refine lv_icmp_ge (tgt := 108) hx hb dX12_put__68 (by decide) (fun c_ => absurd c_ (by decide)) (fun _ => ?_)
          refine lv_aload_n hx hb dX12_put__71 rfl (lv_at hl_390 2 rfl) ?_
          refine va_get (D := (dC, dI)) (ci := 15) (v := .ref h50) (C := RX12) (T := TX12) (N := 143) hx hb ht inX12 hown hK_3 hP_389 0 rfl rfl 70 (by decide) (ht _ tw_2210) (fun _ h9 => h9) rfl dX12_put__72 ?_
          refine lv_bipush (v := 100) hx hb dX12_put__75 (by decide) ?_
          refine lv_iload_n hx hb dX12_put__77 rfl (lv_at hl_390 3 rfl) ?_
          refine lv_imul hx hb dX12_put__78 ?_
          refine lv_topi (fun x_391 ex_391 => ?_)
          obtain rfl : x_391 = 100 := ex_391.trans (by decide)
          refine lv_iload hx hb dX12_put__79 (lv_at hl_390 1 rfl) ?_
          refine lv_iadd hx hb dX12_put__81 ?_
          refine lv_topi (fun x_392 ex_392 => ?_)
          obtain rfl : x_392 = 100 := ex_392.trans (by decide)
          refine lv_iload hx hb dX12_put__82 (lv_at hl_390 0 rfl) ?_
          refine lv_iadd hx hb dX12_put__84 ?_
          refine lv_topi (fun x_393 ex_393 => ?_)
          obtain rfl : x_393 = 103 := ex_393.trans (by decide)
          refine lv_lload_n hx hb dX12_put__85 rfl (lv_at hl_390 5 rfl) ?_
          refine lv_bipush (v := 16) hx hb dX12_put__86 (by decide) ?_
          refine lv_iload_n hx hb dX12_put__88 rfl (lv_at hl_390 4 rfl) ?_
          refine lv_iconst (v := 1) hx hb dX12_put__89 (by decide) ?_
          refine lv_isub hx hb dX12_put__90 ?_
          refine lv_topi (fun x_394 ex_394 => ?_)
          obtain rfl : x_394 = 3 := ex_394.trans (by decide)
          refine lv_iload hx hb dX12_put__91 (lv_at hl_390 0 rfl) ?_
          refine lv_isub hx hb dX12_put__93 ?_
          refine lv_topi (fun x_395 ex_395 => ?_)
          obtain rfl : x_395 = 0 := ex_395.trans (by decide)
          refine lv_imul hx hb dX12_put__94 ?_
          refine lv_topi (fun x_396 ex_396 => ?_)
          obtain rfl : x_396 = 0 := ex_396.trans (by decide)
          refine lv_lshr (v := (w0 >>> ((0 : Int32).toInt64 &&& 63))) hx hb dX12_put__95 rfl ?_
          refine lv_ldc2 hx hb hown (ht _ tw_2813) dX12_put__96 ?_
          refine lv_land hx hb dX12_put__99 ?_
          refine lv_l2i (v := ((w0 >>> ((0 : Int32).toInt64 &&& 63)) &&& 65535).toInt32) hx hb dX12_put__100 rfl ?_
          refine va_iast hx hb hK_3 hP_389 hD_389 hS_389 3 2 rfl rfl (i := 103) (vpi (by decide)) dX12_put__101 (fun H_397 locs_397 hP_397 hD_397 hS_397 => ?_)
          have hP_397 : va_P (dC, dI) vwCl [(h0, .inr (15, [.int 0, .int 0, .ref h1, .int 0, .int (-1), .ref h2, .ref h3, .ref h4, .ref h5, .ref h6, .ref h7, .ref h8, .ref h9, .ref h10, .ref h11, .ref h12, .ref h13, .ref h14, .ref h15, .ref h16, .ref h17, .ref h18, .ref h19, .ref h20, .ref h21, .ref h22, .ref h23, .ref h24, .ref h25, .ref h26, .ref h27, .int 0, .ref h28, .ref h29, .int 0, .int 0, .int 0, .int 0, .int 0, .int 0, .ref h30, .int 0, .ref h31, .ref h32, .ref h33, .ref h34, .ref h35, .ref h36, .ref h37, .ref h38, .int 0, .int 0, .int 0, .int 0, .ref h39, .ref h40, .ref h41, .int 0, .ref h42, .int 0, .ref h43, .int 0, .int 0, .ref h44, .ref h45, .ref h46, .int 0, .ref h47, .ref h48, .ref h49, .ref h50, .ref h51, .ref h52, .ref h53, .int 0, .ref h54, .int 0, .ref h55, .ref h56, .ref h57, .int 0, .ref h58, .ref h59, .ref h60, .ref h61, .int 0, .ref h62, .ref h63, .ref h64, .ref h65, .int 0, .int 0, .int 0, .int 0, .int 0, .int 0, .int 0, .int 0, .int 0, .ref h66, .int 0, .ref h67, .int 0, .int 0, .int 0, .int 0, .int 0, .ref h68, .int 0, .int 0, .ref h69, .int 0, .ref h70, .int 0, .ref h71, .ref h72, .int 0, .ref h73, .ref h74, .ref h75, .ref h76, .long 0, .int 0, .ref h77, .ref h78, .ref h79, .ref h80, .ref h81, .ref h82, .ref h83, .ref h84, .ref h85, .ref h86, .ref h87, .ref h88, .ref h89, .ref h90, .ref h91, .int 0, .ref h92, .ref h93, .ref h94, .int 0])), (h48, .inl (k0, 4, .inl (fun _ => 0))), (h49, .inl (k1, 4, .inl (fun _ => 0))), (h50, .inl (k2, 400, .inl (upd (upd (upd (upd (fun _ => 0) 100 (((w0 >>> ((48 : Int32).toInt64 &&& 63)) &&& 65535).toInt32)) 101 (((w0 >>> ((32 : Int32).toInt64 &&& 63)) &&& 65535).toInt32)) 102 (((w0 >>> ((16 : Int32).toInt64 &&& 63)) &&& 65535).toInt32)) 103 (((w0 >>> ((0 : Int32).toInt64 &&& 63)) &&& 65535).toInt32))))] H_397 := hP_397
          have hD_397 : va_D A [(h0, .inr (15, [.int 0, .int 0, .ref h1, .int 0, .int (-1), .ref h2, .ref h3, .ref h4, .ref h5, .ref h6, .ref h7, .ref h8, .ref h9, .ref h10, .ref h11, .ref h12, .ref h13, .ref h14, .ref h15, .ref h16, .ref h17, .ref h18, .ref h19, .ref h20, .ref h21, .ref h22, .ref h23, .ref h24, .ref h25, .ref h26, .ref h27, .int 0, .ref h28, .ref h29, .int 0, .int 0, .int 0, .int 0, .int 0, .int 0, .ref h30, .int 0, .ref h31, .ref h32, .ref h33, .ref h34, .ref h35, .ref h36, .ref h37, .ref h38, .int 0, .int 0, .int 0, .int 0, .ref h39, .ref h40, .ref h41, .int 0, .ref h42, .int 0, .ref h43, .int 0, .int 0, .ref h44, .ref h45, .ref h46, .int 0, .ref h47, .ref h48, .ref h49, .ref h50, .ref h51, .ref h52, .ref h53, .int 0, .ref h54, .int 0, .ref h55, .ref h56, .ref h57, .int 0, .ref h58, .ref h59, .ref h60, .ref h61, .int 0, .ref h62, .ref h63, .ref h64, .ref h65, .int 0, .int 0, .int 0, .int 0, .int 0, .int 0, .int 0, .int 0, .int 0, .ref h66, .int 0, .ref h67, .int 0, .int 0, .int 0, .int 0, .int 0, .ref h68, .int 0, .int 0, .ref h69, .int 0, .ref h70, .int 0, .ref h71, .ref h72, .int 0, .ref h73, .ref h74, .ref h75, .ref h76, .long 0, .int 0, .ref h77, .ref h78, .ref h79, .ref h80, .ref h81, .ref h82, .ref h83, .ref h84, .ref h85, .ref h86, .ref h87, .ref h88, .ref h89, .ref h90, .ref h91, .int 0, .ref h92, .ref h93, .ref h94, .int 0])), (h48, .inl (k0, 4, .inl (fun _ => 0))), (h49, .inl (k1, 4, .inl (fun _ => 0))), (h50, .inl (k2, 400, .inl (upd (upd (upd (upd (fun _ => 0) 100 (((w0 >>> ((48 : Int32).toInt64 &&& 63)) &&& 65535).toInt32)) 101 (((w0 >>> ((32 : Int32).toInt64 &&& 63)) &&& 65535).toInt32)) 102 (((w0 >>> ((16 : Int32).toInt64 &&& 63)) &&& 65535).toInt32)) 103 (((w0 >>> ((0 : Int32).toInt64 &&& 63)) &&& 65535).toInt32))))] := hD_397
          clear hP_389 hD_389 hS_389
          refine lv_iinc (v := 4) (lv' := [(6, .int 4), (5, .int 0), (0, .ref h0), (1, .int 1), (2, .int 4), (3, .long w0)]) hx hb dX12_put__102 hl_390 (k := 0) rfl (by decide) (by decide) rfl (fun ls_398 hl_398 => ?_)
          clear hl_390
          refine lv_goto (tgt := 65) hx hb dX12_put__105 (by decide) ?_
          refine lv_iload hx hb dX12_put__65 (lv_at hl_398 0 rfl) ?_
          refine lv_iload_n hx hb dX12_put__67 rfl (lv_at hl_398 4 rfl) ?_
          refine lv_icmp_ge (tgt := 108) hx hb dX12_put__68 (by decide) (fun _ => ?_) (fun c_ => absurd (by decide) c_)
          refine lv_aload_n hx hb dX12_put__108 rfl (lv_at hl_398 2 rfl) ?_
          refine va_get (D := (dC, dI)) (ci := 15) (v := .ref h48) (C := RX12) (T := TX12) (N := 143) hx hb ht inX12 hown hK_3 hP_397 0 rfl rfl 68 (by decide) (ht _ tw_2208) (fun _ h9 => h9) rfl dX12_put__109 ?_
          refine lv_iload_n hx hb dX12_put__112 rfl (lv_at hl_398 3 rfl) ?_
          refine lv_iconst (v := 1) hx hb dX12_put__113 (by decide) ?_
          refine va_zast hx hb hK_3 hP_397 hD_397 hS_397 1 0 rfl rfl (i := 1) (vpi (by decide)) dX12_put__114 (fun H_399 locs_399 hP_399 hD_399 hS_399 => ?_)
          have hP_399 : va_P (dC, dI) vwCl [(h0, .inr (15, [.int 0, .int 0, .ref h1, .int 0, .int (-1), .ref h2, .ref h3, .ref h4, .ref h5, .ref h6, .ref h7, .ref h8, .ref h9, .ref h10, .ref h11, .ref h12, .ref h13, .ref h14, .ref h15, .ref h16, .ref h17, .ref h18, .ref h19, .ref h20, .ref h21, .ref h22, .ref h23, .ref h24, .ref h25, .ref h26, .ref h27, .int 0, .ref h28, .ref h29, .int 0, .int 0, .int 0, .int 0, .int 0, .int 0, .ref h30, .int 0, .ref h31, .ref h32, .ref h33, .ref h34, .ref h35, .ref h36, .ref h37, .ref h38, .int 0, .int 0, .int 0, .int 0, .ref h39, .ref h40, .ref h41, .int 0, .ref h42, .int 0, .ref h43, .int 0, .int 0, .ref h44, .ref h45, .ref h46, .int 0, .ref h47, .ref h48, .ref h49, .ref h50, .ref h51, .ref h52, .ref h53, .int 0, .ref h54, .int 0, .ref h55, .ref h56, .ref h57, .int 0, .ref h58, .ref h59, .ref h60, .ref h61, .int 0, .ref h62, .ref h63, .ref h64, .ref h65, .int 0, .int 0, .int 0, .int 0, .int 0, .int 0, .int 0, .int 0, .int 0, .ref h66, .int 0, .ref h67, .int 0, .int 0, .int 0, .int 0, .int 0, .ref h68, .int 0, .int 0, .ref h69, .int 0, .ref h70, .int 0, .ref h71, .ref h72, .int 0, .ref h73, .ref h74, .ref h75, .ref h76, .long 0, .int 0, .ref h77, .ref h78, .ref h79, .ref h80, .ref h81, .ref h82, .ref h83, .ref h84, .ref h85, .ref h86, .ref h87, .ref h88, .ref h89, .ref h90, .ref h91, .int 0, .ref h92, .ref h93, .ref h94, .int 0])), (h48, .inl (k0, 4, .inl (upd (fun _ => 0) 1 1))), (h49, .inl (k1, 4, .inl (fun _ => 0))), (h50, .inl (k2, 400, .inl (upd (upd (upd (upd (fun _ => 0) 100 (((w0 >>> ((48 : Int32).toInt64 &&& 63)) &&& 65535).toInt32)) 101 (((w0 >>> ((32 : Int32).toInt64 &&& 63)) &&& 65535).toInt32)) 102 (((w0 >>> ((16 : Int32).toInt64 &&& 63)) &&& 65535).toInt32)) 103 (((w0 >>> ((0 : Int32).toInt64 &&& 63)) &&& 65535).toInt32))))] H_399 := hP_399
          have hD_399 : va_D A [(h0, .inr (15, [.int 0, .int 0, .ref h1, .int 0, .int (-1), .ref h2, .ref h3, .ref h4, .ref h5, .ref h6, .ref h7, .ref h8, .ref h9, .ref h10, .ref h11, .ref h12, .ref h13, .ref h14, .ref h15, .ref h16, .ref h17, .ref h18, .ref h19, .ref h20, .ref h21, .ref h22, .ref h23, .ref h24, .ref h25, .ref h26, .ref h27, .int 0, .ref h28, .ref h29, .int 0, .int 0, .int 0, .int 0, .int 0, .int 0, .ref h30, .int 0, .ref h31, .ref h32, .ref h33, .ref h34, .ref h35, .ref h36, .ref h37, .ref h38, .int 0, .int 0, .int 0, .int 0, .ref h39, .ref h40, .ref h41, .int 0, .ref h42, .int 0, .ref h43, .int 0, .int 0, .ref h44, .ref h45, .ref h46, .int 0, .ref h47, .ref h48, .ref h49, .ref h50, .ref h51, .ref h52, .ref h53, .int 0, .ref h54, .int 0, .ref h55, .ref h56, .ref h57, .int 0, .ref h58, .ref h59, .ref h60, .ref h61, .int 0, .ref h62, .ref h63, .ref h64, .ref h65, .int 0, .int 0, .int 0, .int 0, .int 0, .int 0, .int 0, .int 0, .int 0, .ref h66, .int 0, .ref h67, .int 0, .int 0, .int 0, .int 0, .int 0, .ref h68, .int 0, .int 0, .ref h69, .int 0, .ref h70, .int 0, .ref h71, .ref h72, .int 0, .ref h73, .ref h74, .ref h75, .ref h76, .long 0, .int 0, .ref h77, .ref h78, .ref h79, .ref h80, .ref h81, .ref h82, .ref h83, .ref h84, .ref h85, .ref h86, .ref h87, .ref h88, .ref h89, .ref h90, .ref h91, .int 0, .ref h92, .ref h93, .ref h94, .int 0])), (h48, .inl (k0, 4, .inl (upd (fun _ => 0) 1 1))), (h49, .inl (k1, 4, .inl (fun _ => 0))), (h50, .inl (k2, 400, .inl (upd (upd (upd (upd (fun _ => 0) 100 (((w0 >>> ((48 : Int32).toInt64 &&& 63)) &&& 65535).toInt32)) 101 (((w0 >>> ((32 : Int32).toInt64 &&& 63)) &&& 65535).toInt32)) 102 (((w0 >>> ((16 : Int32).toInt64 &&& 63)) &&& 65535).toInt32)) 103 (((w0 >>> ((0 : Int32).toInt64 &&& 63)) &&& 65535).toInt32))))] := hD_399
          clear hP_397 hD_397 hS_397
          refine lv_aload_n hx hb dX12_put__115 rfl (lv_at hl_398 2 rfl) ?_
          refine va_get (D := (dC, dI)) (ci := 15) (v := .ref h49) (C := RX12) (T := TX12) (N := 143) hx hb ht inX12 hown hK_3 hP_399 0 rfl rfl 69 (by decide) (ht _ tw_2209) (fun _ h9 => h9) rfl dX12_put__116 ?_
          refine lv_iload_n hx hb dX12_put__119 rfl (lv_at hl_398 3 rfl) ?_
          refine lv_iload hx hb dX12_put__120 (lv_at hl_398 1 rfl) ?_
          refine lv_iload_n hx hb dX12_put__122 rfl (lv_at hl_398 4 rfl) ?_
          refine lv_iadd hx hb dX12_put__123 ?_
          refine lv_topi (fun x_400 ex_400 => ?_)
          obtain rfl : x_400 = 4 := ex_400.trans (by decide)
          refine va_iast hx hb hK_3 hP_399 hD_399 hS_399 2 1 rfl rfl (i := 1) (vpi (by decide)) dX12_put__124 (fun H_401 locs_401 hP_401 hD_401 hS_401 => ?_)
          have hP_401 : va_P (dC, dI) vwCl [(h0, .inr (15, [.int 0, .int 0, .ref h1, .int 0, .int (-1), .ref h2, .ref h3, .ref h4, .ref h5, .ref h6, .ref h7, .ref h8, .ref h9, .ref h10, .ref h11, .ref h12, .ref h13, .ref h14, .ref h15, .ref h16, .ref h17, .ref h18, .ref h19, .ref h20, .ref h21, .ref h22, .ref h23, .ref h24, .ref h25, .ref h26, .ref h27, .int 0, .ref h28, .ref h29, .int 0, .int 0, .int 0, .int 0, .int 0, .int 0, .ref h30, .int 0, .ref h31, .ref h32, .ref h33, .ref h34, .ref h35, .ref h36, .ref h37, .ref h38, .int 0, .int 0, .int 0, .int 0, .ref h39, .ref h40, .ref h41, .int 0, .ref h42, .int 0, .ref h43, .int 0, .int 0, .ref h44, .ref h45, .ref h46, .int 0, .ref h47, .ref h48, .ref h49, .ref h50, .ref h51, .ref h52, .ref h53, .int 0, .ref h54, .int 0, .ref h55, .ref h56, .ref h57, .int 0, .ref h58, .ref h59, .ref h60, .ref h61, .int 0, .ref h62, .ref h63, .ref h64, .ref h65, .int 0, .int 0, .int 0, .int 0, .int 0, .int 0, .int 0, .int 0, .int 0, .ref h66, .int 0, .ref h67, .int 0, .int 0, .int 0, .int 0, .int 0, .ref h68, .int 0, .int 0, .ref h69, .int 0, .ref h70, .int 0, .ref h71, .ref h72, .int 0, .ref h73, .ref h74, .ref h75, .ref h76, .long 0, .int 0, .ref h77, .ref h78, .ref h79, .ref h80, .ref h81, .ref h82, .ref h83, .ref h84, .ref h85, .ref h86, .ref h87, .ref h88, .ref h89, .ref h90, .ref h91, .int 0, .ref h92, .ref h93, .ref h94, .int 0])), (h48, .inl (k0, 4, .inl (upd (fun _ => 0) 1 1))), (h49, .inl (k1, 4, .inl (upd (fun _ => 0) 1 4))), (h50, .inl (k2, 400, .inl (upd (upd (upd (upd (fun _ => 0) 100 (((w0 >>> ((48 : Int32).toInt64 &&& 63)) &&& 65535).toInt32)) 101 (((w0 >>> ((32 : Int32).toInt64 &&& 63)) &&& 65535).toInt32)) 102 (((w0 >>> ((16 : Int32).toInt64 &&& 63)) &&& 65535).toInt32)) 103 (((w0 >>> ((0 : Int32).toInt64 &&& 63)) &&& 65535).toInt32))))] H_401 := hP_401
          have hD_401 : va_D A [(h0, .inr (15, [.int 0, .int 0, .ref h1, .int 0, .int (-1), .ref h2, .ref h3, .ref h4, .ref h5, .ref h6, .ref h7, .ref h8, .ref h9, .ref h10, .ref h11, .ref h12, .ref h13, .ref h14, .ref h15, .ref h16, .ref h17, .ref h18, .ref h19, .ref h20, .ref h21, .ref h22, .ref h23, .ref h24, .ref h25, .ref h26, .ref h27, .int 0, .ref h28, .ref h29, .int 0, .int 0, .int 0, .int 0, .int 0, .int 0, .ref h30, .int 0, .ref h31, .ref h32, .ref h33, .ref h34, .ref h35, .ref h36, .ref h37, .ref h38, .int 0, .int 0, .int 0, .int 0, .ref h39, .ref h40, .ref h41, .int 0, .ref h42, .int 0, .ref h43, .int 0, .int 0, .ref h44, .ref h45, .ref h46, .int 0, .ref h47, .ref h48, .ref h49, .ref h50, .ref h51, .ref h52, .ref h53, .int 0, .ref h54, .int 0, .ref h55, .ref h56, .ref h57, .int 0, .ref h58, .ref h59, .ref h60, .ref h61, .int 0, .ref h62, .ref h63, .ref h64, .ref h65, .int 0, .int 0, .int 0, .int 0, .int 0, .int 0, .int 0, .int 0, .int 0, .ref h66, .int 0, .ref h67, .int 0, .int 0, .int 0, .int 0, .int 0, .ref h68, .int 0, .int 0, .ref h69, .int 0, .ref h70, .int 0, .ref h71, .ref h72, .int 0, .ref h73, .ref h74, .ref h75, .ref h76, .long 0, .int 0, .ref h77, .ref h78, .ref h79, .ref h80, .ref h81, .ref h82, .ref h83, .ref h84, .ref h85, .ref h86, .ref h87, .ref h88, .ref h89, .ref h90, .ref h91, .int 0, .ref h92, .ref h93, .ref h94, .int 0])), (h48, .inl (k0, 4, .inl (upd (fun _ => 0) 1 1))), (h49, .inl (k1, 4, .inl (upd (fun _ => 0) 1 4))), (h50, .inl (k2, 400, .inl (upd (upd (upd (upd (fun _ => 0) 100 (((w0 >>> ((48 : Int32).toInt64 &&& 63)) &&& 65535).toInt32)) 101 (((w0 >>> ((32 : Int32).toInt64 &&& 63)) &&& 65535).toInt32)) 102 (((w0 >>> ((16 : Int32).toInt64 &&& 63)) &&& 65535).toInt32)) 103 (((w0 >>> ((0 : Int32).toInt64 &&& 63)) &&& 65535).toInt32))))] := hD_401
          clear hP_399 hD_399 hS_399
          refine lv_aload_n hx hb dX12_put__125 rfl (lv_at hl_398 2 rfl) ?_
          refine lv_aload_n hx hb dX12_put__126 rfl (lv_at hl_398 2 rfl) ?_
          refine va_get (D := (dC, dI)) (ci := 15) (v := .int 0) (C := RX12) (T := TX12) (N := 143) hx hb ht inX12 hown hK_3 hP_401 0 rfl rfl 102 (by decide) (ht _ tw_2242) (fun _ h9 => h9) rfl dX12_put__127 ?_
          refine lv_if_eq (tgt := 145) hx hb dX12_put__130 (by decide) (fun _ => ?_) (fun c_ => absurd (by decide) c_)
          refine lv_iconst (v := 0) hx hb dX12_put__145 (by decide) ?_
          refine va_put (D := (dC, dI)) (ci := 15) (v := .int 0) (ty := .boolean) (C := RX12) (T := TX12) (N := 143) hx hb ht inX12 tyX12 tyX12_ok nmX12 hown hK_3 hP_401 hD_401 hS_401 0 rfl rfl 102 (by decide) (ht _ tw_2242) (fun _ h9 => h9) rfl (by decide +kernel) rfl rfl (Nat.le_of_ble_eq_true rfl) dX12_put__146 (fun H_402 locs_402 hP_402 hD_402 hS_402 => ?_)
          have hP_402 : va_P (dC, dI) vwCl [(h0, .inr (15, [.int 0, .int 0, .ref h1, .int 0, .int (-1), .ref h2, .ref h3, .ref h4, .ref h5, .ref h6, .ref h7, .ref h8, .ref h9, .ref h10, .ref h11, .ref h12, .ref h13, .ref h14, .ref h15, .ref h16, .ref h17, .ref h18, .ref h19, .ref h20, .ref h21, .ref h22, .ref h23, .ref h24, .ref h25, .ref h26, .ref h27, .int 0, .ref h28, .ref h29, .int 0, .int 0, .int 0, .int 0, .int 0, .int 0, .ref h30, .int 0, .ref h31, .ref h32, .ref h33, .ref h34, .ref h35, .ref h36, .ref h37, .ref h38, .int 0, .int 0, .int 0, .int 0, .ref h39, .ref h40, .ref h41, .int 0, .ref h42, .int 0, .ref h43, .int 0, .int 0, .ref h44, .ref h45, .ref h46, .int 0, .ref h47, .ref h48, .ref h49, .ref h50, .ref h51, .ref h52, .ref h53, .int 0, .ref h54, .int 0, .ref h55, .ref h56, .ref h57, .int 0, .ref h58, .ref h59, .ref h60, .ref h61, .int 0, .ref h62, .ref h63, .ref h64, .ref h65, .int 0, .int 0, .int 0, .int 0, .int 0, .int 0, .int 0, .int 0, .int 0, .ref h66, .int 0, .ref h67, .int 0, .int 0, .int 0, .int 0, .int 0, .ref h68, .int 0, .int 0, .ref h69, .int 0, .ref h70, .int 0, .ref h71, .ref h72, .int 0, .ref h73, .ref h74, .ref h75, .ref h76, .long 0, .int 0, .ref h77, .ref h78, .ref h79, .ref h80, .ref h81, .ref h82, .ref h83, .ref h84, .ref h85, .ref h86, .ref h87, .ref h88, .ref h89, .ref h90, .ref h91, .int 0, .ref h92, .ref h93, .ref h94, .int 0])), (h48, .inl (k0, 4, .inl (upd (fun _ => 0) 1 1))), (h49, .inl (k1, 4, .inl (upd (fun _ => 0) 1 4))), (h50, .inl (k2, 400, .inl (upd (upd (upd (upd (fun _ => 0) 100 (((w0 >>> ((48 : Int32).toInt64 &&& 63)) &&& 65535).toInt32)) 101 (((w0 >>> ((32 : Int32).toInt64 &&& 63)) &&& 65535).toInt32)) 102 (((w0 >>> ((16 : Int32).toInt64 &&& 63)) &&& 65535).toInt32)) 103 (((w0 >>> ((0 : Int32).toInt64 &&& 63)) &&& 65535).toInt32))))] H_402 := hP_402
          have hD_402 : va_D A [(h0, .inr (15, [.int 0, .int 0, .ref h1, .int 0, .int (-1), .ref h2, .ref h3, .ref h4, .ref h5, .ref h6, .ref h7, .ref h8, .ref h9, .ref h10, .ref h11, .ref h12, .ref h13, .ref h14, .ref h15, .ref h16, .ref h17, .ref h18, .ref h19, .ref h20, .ref h21, .ref h22, .ref h23, .ref h24, .ref h25, .ref h26, .ref h27, .int 0, .ref h28, .ref h29, .int 0, .int 0, .int 0, .int 0, .int 0, .int 0, .ref h30, .int 0, .ref h31, .ref h32, .ref h33, .ref h34, .ref h35, .ref h36, .ref h37, .ref h38, .int 0, .int 0, .int 0, .int 0, .ref h39, .ref h40, .ref h41, .int 0, .ref h42, .int 0, .ref h43, .int 0, .int 0, .ref h44, .ref h45, .ref h46, .int 0, .ref h47, .ref h48, .ref h49, .ref h50, .ref h51, .ref h52, .ref h53, .int 0, .ref h54, .int 0, .ref h55, .ref h56, .ref h57, .int 0, .ref h58, .ref h59, .ref h60, .ref h61, .int 0, .ref h62, .ref h63, .ref h64, .ref h65, .int 0, .int 0, .int 0, .int 0, .int 0, .int 0, .int 0, .int 0, .int 0, .ref h66, .int 0, .ref h67, .int 0, .int 0, .int 0, .int 0, .int 0, .ref h68, .int 0, .int 0, .ref h69, .int 0, .ref h70, .int 0, .ref h71, .ref h72, .int 0, .ref h73, .ref h74, .ref h75, .ref h76, .long 0, .int 0, .ref h77, .ref h78, .ref h79, .ref h80, .ref h81, .ref h82, .ref h83, .ref h84, .ref h85, .ref h86, .ref h87, .ref h88, .ref h89, .ref h90, .ref h91, .int 0, .ref h92, .ref h93, .ref h94, .int 0])), (h48, .inl (k0, 4, .inl (upd (fun _ => 0) 1 1))), (h49, .inl (k1, 4, .inl (upd (fun _ => 0) 1 4))), (h50, .inl (k2, 400, .inl (upd (upd (upd (upd (fun _ => 0) 100 (((w0 >>> ((48 : Int32).toInt64 &&& 63)) &&& 65535).toInt32)) 101 (((w0 >>> ((32 : Int32).toInt64 &&& 63)) &&& 65535).toInt32)) 102 (((w0 >>> ((16 : Int32).toInt64 &&& 63)) &&& 65535).toInt32)) 103 (((w0 >>> ((0 : Int32).toInt64 &&& 63)) &&& 65535).toInt32))))] := hD_402
          clear hP_401 hD_401 hS_401
          refine lv_iload hx hb dX12_put__149 (lv_at hl_398 1 rfl) ?_
          refine lv_iload_n hx hb dX12_put__151 rfl (lv_at hl_398 4 rfl) ?_
          refine lv_iadd hx hb dX12_put__152 ?_
          refine lv_topi (fun x_403 ex_403 => ?_)
          obtain rfl : x_403 = 4 := ex_403.trans (by decide)
          have hP9 := hP_402.sub (ws' := []) [] rfl
          have hD9 := hD_402.sub (ws' := []) [] (by decide) rfl
          have hK9 := hK_3.sub (tys' := []) [] rfl
          refine W.widen (k := 0) (n := 0) (by decide) (by decide) ?_
          exact W.iret (v := 4) hx hb hr (fun t9 ht9 hW9 => ⟨⟨4, 4, rfl, (Or.inr (Or.inr (Or.inr (Or.inr ⟨rfl, rfl, cc_2_0, cc_2_1, cc_3_0, cc_3_1⟩)))), ⟨by rw [ht9]; exact hP9, va_K.moved hW9.alike hK9, hD9⟩⟩, hS_402.F ht9⟩) hS_402.2.2 dX12_put__153
        · refine va_zald hx hb hK_3 hP_3 1 0 rfl rfl (i := 2) (vpi (by decide)) dX12_put__34 ?_
          refine W.eq (g2 := F0 m 35 ls [.int 0]) rfl ?_
          refine lv_if_eq (tgt := 47) hx hb dX12_put__35 (by decide) (fun _ => ?_) (fun c_ => absurd (by decide) c_)
          refine lv_iconst (v := 0) hx hb dX12_put__47 (by decide) ?_
          refine lv_istore (lv' := [(5, .int 0), (0, .ref h0), (1, .int 2), (2, .int 4), (3, .long w0)]) hx hb dX12_put__48 hl (by decide) rfl (fun ls_404 hl_404 => ?_)
          clear hl
          refine lv_iload hx hb dX12_put__50 (lv_at hl_404 0 rfl) ?_
          refine lv_iload_n hx hb dX12_put__52 rfl (lv_at hl_404 3 rfl) ?_
          refine lv_iadd hx hb dX12_put__53 ?_
          refine lv_topi (fun x_405 ex_405 => ?_)
          obtain rfl : x_405 = 4 := ex_405.trans (by decide)
          refine lv_bipush (v := 100) hx hb dX12_put__54 (by decide) ?_
          refine lv_icmp_le (tgt := 62) hx hb dX12_put__56 (by decide) (fun _ => ?_) (fun c_ => absurd (by decide) c_)
          refine lv_iconst (v := 0) hx hb dX12_put__62 (by decide) ?_
          refine lv_istore (lv' := [(6, .int 0), (5, .int 0), (0, .ref h0), (1, .int 2), (2, .int 4), (3, .long w0)]) hx hb dX12_put__63 hl_404 (by decide) rfl (fun ls_406 hl_406 => ?_)
          clear hl_404
          refine lv_iload hx hb dX12_put__65 (lv_at hl_406 0 rfl) ?_
          refine lv_iload_n hx hb dX12_put__67 rfl (lv_at hl_406 4 rfl) ?_
          refine lv_icmp_ge (tgt := 108) hx hb dX12_put__68 (by decide) (fun c_ => absurd c_ (by decide)) (fun _ => ?_)
          refine lv_aload_n hx hb dX12_put__71 rfl (lv_at hl_406 2 rfl) ?_
          refine va_get (D := (dC, dI)) (ci := 15) (v := .ref h50) (C := RX12) (T := TX12) (N := 143) hx hb ht inX12 hown hK_3 hP_3 0 rfl rfl 70 (by decide) (ht _ tw_2210) (fun _ h9 => h9) rfl dX12_put__72 ?_
          refine lv_bipush (v := 100) hx hb dX12_put__75 (by decide) ?_
          refine lv_iload_n hx hb dX12_put__77 rfl (lv_at hl_406 3 rfl) ?_
          refine lv_imul hx hb dX12_put__78 ?_
          refine lv_topi (fun x_407 ex_407 => ?_)
          obtain rfl : x_407 = 200 := ex_407.trans (by decide)
          refine lv_iload hx hb dX12_put__79 (lv_at hl_406 1 rfl) ?_
          refine lv_iadd hx hb dX12_put__81 ?_
          refine lv_topi (fun x_408 ex_408 => ?_)
          obtain rfl : x_408 = 200 := ex_408.trans (by decide)
          refine lv_iload hx hb dX12_put__82 (lv_at hl_406 0 rfl) ?_
          refine lv_iadd hx hb dX12_put__84 ?_
          refine lv_topi (fun x_409 ex_409 => ?_)
          obtain rfl : x_409 = 200 := ex_409.trans (by decide)
          refine lv_lload_n hx hb dX12_put__85 rfl (lv_at hl_406 5 rfl) ?_
          refine lv_bipush (v := 16) hx hb dX12_put__86 (by decide) ?_
          refine lv_iload_n hx hb dX12_put__88 rfl (lv_at hl_406 4 rfl) ?_
          refine lv_iconst (v := 1) hx hb dX12_put__89 (by decide) ?_
          refine lv_isub hx hb dX12_put__90 ?_
          refine lv_topi (fun x_410 ex_410 => ?_)
          obtain rfl : x_410 = 3 := ex_410.trans (by decide)
          refine lv_iload hx hb dX12_put__91 (lv_at hl_406 0 rfl) ?_
          refine lv_isub hx hb dX12_put__93 ?_
          refine lv_topi (fun x_411 ex_411 => ?_)
          obtain rfl : x_411 = 3 := ex_411.trans (by decide)
          refine lv_imul hx hb dX12_put__94 ?_
          refine lv_topi (fun x_412 ex_412 => ?_)
          obtain rfl : x_412 = 48 := ex_412.trans (by decide)
          refine lv_lshr (v := (w0 >>> ((48 : Int32).toInt64 &&& 63))) hx hb dX12_put__95 rfl ?_
          refine lv_ldc2 hx hb hown (ht _ tw_2813) dX12_put__96 ?_
          refine lv_land hx hb dX12_put__99 ?_
          refine lv_l2i (v := ((w0 >>> ((48 : Int32).toInt64 &&& 63)) &&& 65535).toInt32) hx hb dX12_put__100 rfl ?_
          refine va_iast hx hb hK_3 hP_3 hD_3 hS_3 3 2 rfl rfl (i := 200) (vpi (by decide)) dX12_put__101 (fun H_413 locs_413 hP_413 hD_413 hS_413 => ?_)
          have hP_413 : va_P (dC, dI) vwCl [(h0, .inr (15, [.int 0, .int 0, .ref h1, .int 0, .int (-1), .ref h2, .ref h3, .ref h4, .ref h5, .ref h6, .ref h7, .ref h8, .ref h9, .ref h10, .ref h11, .ref h12, .ref h13, .ref h14, .ref h15, .ref h16, .ref h17, .ref h18, .ref h19, .ref h20, .ref h21, .ref h22, .ref h23, .ref h24, .ref h25, .ref h26, .ref h27, .int 0, .ref h28, .ref h29, .int 0, .int 0, .int 0, .int 0, .int 0, .int 0, .ref h30, .int 0, .ref h31, .ref h32, .ref h33, .ref h34, .ref h35, .ref h36, .ref h37, .ref h38, .int 0, .int 0, .int 0, .int 0, .ref h39, .ref h40, .ref h41, .int 0, .ref h42, .int 0, .ref h43, .int 0, .int 0, .ref h44, .ref h45, .ref h46, .int 0, .ref h47, .ref h48, .ref h49, .ref h50, .ref h51, .ref h52, .ref h53, .int 0, .ref h54, .int 0, .ref h55, .ref h56, .ref h57, .int 0, .ref h58, .ref h59, .ref h60, .ref h61, .int 0, .ref h62, .ref h63, .ref h64, .ref h65, .int 0, .int 0, .int 0, .int 0, .int 0, .int 0, .int 0, .int 0, .int 0, .ref h66, .int 0, .ref h67, .int 0, .int 0, .int 0, .int 0, .int 0, .ref h68, .int 0, .int 0, .ref h69, .int 0, .ref h70, .int 0, .ref h71, .ref h72, .int 0, .ref h73, .ref h74, .ref h75, .ref h76, .long 0, .int 0, .ref h77, .ref h78, .ref h79, .ref h80, .ref h81, .ref h82, .ref h83, .ref h84, .ref h85, .ref h86, .ref h87, .ref h88, .ref h89, .ref h90, .ref h91, .int 0, .ref h92, .ref h93, .ref h94, .int 0])), (h48, .inl (k0, 4, .inl (fun _ => 0))), (h49, .inl (k1, 4, .inl (fun _ => 0))), (h50, .inl (k2, 400, .inl (upd (fun _ => 0) 200 (((w0 >>> ((48 : Int32).toInt64 &&& 63)) &&& 65535).toInt32))))] H_413 := hP_413
          have hD_413 : va_D A [(h0, .inr (15, [.int 0, .int 0, .ref h1, .int 0, .int (-1), .ref h2, .ref h3, .ref h4, .ref h5, .ref h6, .ref h7, .ref h8, .ref h9, .ref h10, .ref h11, .ref h12, .ref h13, .ref h14, .ref h15, .ref h16, .ref h17, .ref h18, .ref h19, .ref h20, .ref h21, .ref h22, .ref h23, .ref h24, .ref h25, .ref h26, .ref h27, .int 0, .ref h28, .ref h29, .int 0, .int 0, .int 0, .int 0, .int 0, .int 0, .ref h30, .int 0, .ref h31, .ref h32, .ref h33, .ref h34, .ref h35, .ref h36, .ref h37, .ref h38, .int 0, .int 0, .int 0, .int 0, .ref h39, .ref h40, .ref h41, .int 0, .ref h42, .int 0, .ref h43, .int 0, .int 0, .ref h44, .ref h45, .ref h46, .int 0, .ref h47, .ref h48, .ref h49, .ref h50, .ref h51, .ref h52, .ref h53, .int 0, .ref h54, .int 0, .ref h55, .ref h56, .ref h57, .int 0, .ref h58, .ref h59, .ref h60, .ref h61, .int 0, .ref h62, .ref h63, .ref h64, .ref h65, .int 0, .int 0, .int 0, .int 0, .int 0, .int 0, .int 0, .int 0, .int 0, .ref h66, .int 0, .ref h67, .int 0, .int 0, .int 0, .int 0, .int 0, .ref h68, .int 0, .int 0, .ref h69, .int 0, .ref h70, .int 0, .ref h71, .ref h72, .int 0, .ref h73, .ref h74, .ref h75, .ref h76, .long 0, .int 0, .ref h77, .ref h78, .ref h79, .ref h80, .ref h81, .ref h82, .ref h83, .ref h84, .ref h85, .ref h86, .ref h87, .ref h88, .ref h89, .ref h90, .ref h91, .int 0, .ref h92, .ref h93, .ref h94, .int 0])), (h48, .inl (k0, 4, .inl (fun _ => 0))), (h49, .inl (k1, 4, .inl (fun _ => 0))), (h50, .inl (k2, 400, .inl (upd (fun _ => 0) 200 (((w0 >>> ((48 : Int32).toInt64 &&& 63)) &&& 65535).toInt32))))] := hD_413
          clear hP_3 hD_3 hS_3
          refine lv_iinc (v := 1) (lv' := [(6, .int 1), (5, .int 0), (0, .ref h0), (1, .int 2), (2, .int 4), (3, .long w0)]) hx hb dX12_put__102 hl_406 (k := 0) rfl (by decide) (by decide) rfl (fun ls_414 hl_414 => ?_)
          clear hl_406
          refine lv_goto (tgt := 65) hx hb dX12_put__105 (by decide) ?_
          refine lv_iload hx hb dX12_put__65 (lv_at hl_414 0 rfl) ?_
          refine lv_iload_n hx hb dX12_put__67 rfl (lv_at hl_414 4 rfl) ?_
          refine lv_icmp_ge (tgt := 108) hx hb dX12_put__68 (by decide) (fun c_ => absurd c_ (by decide)) (fun _ => ?_)
          refine lv_aload_n hx hb dX12_put__71 rfl (lv_at hl_414 2 rfl) ?_
          refine va_get (D := (dC, dI)) (ci := 15) (v := .ref h50) (C := RX12) (T := TX12) (N := 143) hx hb ht inX12 hown hK_3 hP_413 0 rfl rfl 70 (by decide) (ht _ tw_2210) (fun _ h9 => h9) rfl dX12_put__72 ?_
          refine lv_bipush (v := 100) hx hb dX12_put__75 (by decide) ?_
          refine lv_iload_n hx hb dX12_put__77 rfl (lv_at hl_414 3 rfl) ?_
          refine lv_imul hx hb dX12_put__78 ?_
          refine lv_topi (fun x_415 ex_415 => ?_)
          obtain rfl : x_415 = 200 := ex_415.trans (by decide)
          refine lv_iload hx hb dX12_put__79 (lv_at hl_414 1 rfl) ?_
          refine lv_iadd hx hb dX12_put__81 ?_
          refine lv_topi (fun x_416 ex_416 => ?_)
          obtain rfl : x_416 = 200 := ex_416.trans (by decide)
          refine lv_iload hx hb dX12_put__82 (lv_at hl_414 0 rfl) ?_
          refine lv_iadd hx hb dX12_put__84 ?_
          refine lv_topi (fun x_417 ex_417 => ?_)
          obtain rfl : x_417 = 201 := ex_417.trans (by decide)
          refine lv_lload_n hx hb dX12_put__85 rfl (lv_at hl_414 5 rfl) ?_
          refine lv_bipush (v := 16) hx hb dX12_put__86 (by decide) ?_
          refine lv_iload_n hx hb dX12_put__88 rfl (lv_at hl_414 4 rfl) ?_
          refine lv_iconst (v := 1) hx hb dX12_put__89 (by decide) ?_
          refine lv_isub hx hb dX12_put__90 ?_
          refine lv_topi (fun x_418 ex_418 => ?_)
          obtain rfl : x_418 = 3 := ex_418.trans (by decide)
          refine lv_iload hx hb dX12_put__91 (lv_at hl_414 0 rfl) ?_
          refine lv_isub hx hb dX12_put__93 ?_
          refine lv_topi (fun x_419 ex_419 => ?_)
          obtain rfl : x_419 = 2 := ex_419.trans (by decide)
          refine lv_imul hx hb dX12_put__94 ?_
          refine lv_topi (fun x_420 ex_420 => ?_)
          obtain rfl : x_420 = 32 := ex_420.trans (by decide)
          refine lv_lshr (v := (w0 >>> ((32 : Int32).toInt64 &&& 63))) hx hb dX12_put__95 rfl ?_
          refine lv_ldc2 hx hb hown (ht _ tw_2813) dX12_put__96 ?_
          refine lv_land hx hb dX12_put__99 ?_
          refine lv_l2i (v := ((w0 >>> ((32 : Int32).toInt64 &&& 63)) &&& 65535).toInt32) hx hb dX12_put__100 rfl ?_
          refine va_iast hx hb hK_3 hP_413 hD_413 hS_413 3 2 rfl rfl (i := 201) (vpi (by decide)) dX12_put__101 (fun H_421 locs_421 hP_421 hD_421 hS_421 => ?_)
          have hP_421 : va_P (dC, dI) vwCl [(h0, .inr (15, [.int 0, .int 0, .ref h1, .int 0, .int (-1), .ref h2, .ref h3, .ref h4, .ref h5, .ref h6, .ref h7, .ref h8, .ref h9, .ref h10, .ref h11, .ref h12, .ref h13, .ref h14, .ref h15, .ref h16, .ref h17, .ref h18, .ref h19, .ref h20, .ref h21, .ref h22, .ref h23, .ref h24, .ref h25, .ref h26, .ref h27, .int 0, .ref h28, .ref h29, .int 0, .int 0, .int 0, .int 0, .int 0, .int 0, .ref h30, .int 0, .ref h31, .ref h32, .ref h33, .ref h34, .ref h35, .ref h36, .ref h37, .ref h38, .int 0, .int 0, .int 0, .int 0, .ref h39, .ref h40, .ref h41, .int 0, .ref h42, .int 0, .ref h43, .int 0, .int 0, .ref h44, .ref h45, .ref h46, .int 0, .ref h47, .ref h48, .ref h49, .ref h50, .ref h51, .ref h52, .ref h53, .int 0, .ref h54, .int 0, .ref h55, .ref h56, .ref h57, .int 0, .ref h58, .ref h59, .ref h60, .ref h61, .int 0, .ref h62, .ref h63, .ref h64, .ref h65, .int 0, .int 0, .int 0, .int 0, .int 0, .int 0, .int 0, .int 0, .int 0, .ref h66, .int 0, .ref h67, .int 0, .int 0, .int 0, .int 0, .int 0, .ref h68, .int 0, .int 0, .ref h69, .int 0, .ref h70, .int 0, .ref h71, .ref h72, .int 0, .ref h73, .ref h74, .ref h75, .ref h76, .long 0, .int 0, .ref h77, .ref h78, .ref h79, .ref h80, .ref h81, .ref h82, .ref h83, .ref h84, .ref h85, .ref h86, .ref h87, .ref h88, .ref h89, .ref h90, .ref h91, .int 0, .ref h92, .ref h93, .ref h94, .int 0])), (h48, .inl (k0, 4, .inl (fun _ => 0))), (h49, .inl (k1, 4, .inl (fun _ => 0))), (h50, .inl (k2, 400, .inl (upd (upd (fun _ => 0) 200 (((w0 >>> ((48 : Int32).toInt64 &&& 63)) &&& 65535).toInt32)) 201 (((w0 >>> ((32 : Int32).toInt64 &&& 63)) &&& 65535).toInt32))))] H_421 := hP_421
          have hD_421 : va_D A [(h0, .inr (15, [.int 0, .int 0, .ref h1, .int 0, .int (-1), .ref h2, .ref h3, .ref h4, .ref h5, .ref h6, .ref h7, .ref h8, .ref h9, .ref h10, .ref h11, .ref h12, .ref h13, .ref h14, .ref h15, .ref h16, .ref h17, .ref h18, .ref h19, .ref h20, .ref h21, .ref h22, .ref h23, .ref h24, .ref h25, .ref h26, .ref h27, .int 0, .ref h28, .ref h29, .int 0, .int 0, .int 0, .int 0, .int 0, .int 0, .ref h30, .int 0, .ref h31, .ref h32, .ref h33, .ref h34, .ref h35, .ref h36, .ref h37, .ref h38, .int 0, .int 0, .int 0, .int 0, .ref h39, .ref h40, .ref h41, .int 0, .ref h42, .int 0, .ref h43, .int 0, .int 0, .ref h44, .ref h45, .ref h46, .int 0, .ref h47, .ref h48, .ref h49, .ref h50, .ref h51, .ref h52, .ref h53, .int 0, .ref h54, .int 0, .ref h55, .ref h56, .ref h57, .int 0, .ref h58, .ref h59, .ref h60, .ref h61, .int 0, .ref h62, .ref h63, .ref h64, .ref h65, .int 0, .int 0, .int 0, .int 0, .int 0, .int 0, .int 0, .int 0, .int 0, .ref h66, .int 0, .ref h67, .int 0, .int 0, .int 0, .int 0, .int 0, .ref h68, .int 0, .int 0, .ref h69, .int 0, .ref h70, .int 0, .ref h71, .ref h72, .int 0, .ref h73, .ref h74, .ref h75, .ref h76, .long 0, .int 0, .ref h77, .ref h78, .ref h79, .ref h80, .ref h81, .ref h82, .ref h83, .ref h84, .ref h85, .ref h86, .ref h87, .ref h88, .ref h89, .ref h90, .ref h91, .int 0, .ref h92, .ref h93, .ref h94, .int 0])), (h48, .inl (k0, 4, .inl (fun _ => 0))), (h49, .inl (k1, 4, .inl (fun _ => 0))), (h50, .inl (k2, 400, .inl (upd (upd (fun _ => 0) 200 (((w0 >>> ((48 : Int32).toInt64 &&& 63)) &&& 65535).toInt32)) 201 (((w0 >>> ((32 : Int32).toInt64 &&& 63)) &&& 65535).toInt32))))] := hD_421
          clear hP_413 hD_413 hS_413
          refine lv_iinc (v := 2) (lv' := [(6, .int 2), (5, .int 0), (0, .ref h0), (1, .int 2), (2, .int 4), (3, .long w0)]) hx hb dX12_put__102 hl_414 (k := 0) rfl (by decide) (by decide) rfl (fun ls_422 hl_422 => ?_)
          clear hl_414
          refine lv_goto (tgt := 65) hx hb dX12_put__105 (by decide) ?_
          refine lv_iload hx hb dX12_put__65 (lv_at hl_422 0 rfl) ?_
          refine lv_iload_n hx hb dX12_put__67 rfl (lv_at hl_422 4 rfl) ?_
          refine lv_icmp_ge (tgt := 108) hx hb dX12_put__68 (by decide) (fun c_ => absurd c_ (by decide)) (fun _ => ?_)
          refine lv_aload_n hx hb dX12_put__71 rfl (lv_at hl_422 2 rfl) ?_
          refine va_get (D := (dC, dI)) (ci := 15) (v := .ref h50) (C := RX12) (T := TX12) (N := 143) hx hb ht inX12 hown hK_3 hP_421 0 rfl rfl 70 (by decide) (ht _ tw_2210) (fun _ h9 => h9) rfl dX12_put__72 ?_
          refine lv_bipush (v := 100) hx hb dX12_put__75 (by decide) ?_
          refine lv_iload_n hx hb dX12_put__77 rfl (lv_at hl_422 3 rfl) ?_
          refine lv_imul hx hb dX12_put__78 ?_
          refine lv_topi (fun x_423 ex_423 => ?_)
          obtain rfl : x_423 = 200 := ex_423.trans (by decide)
          refine lv_iload hx hb dX12_put__79 (lv_at hl_422 1 rfl) ?_
          refine lv_iadd hx hb dX12_put__81 ?_
          refine lv_topi (fun x_424 ex_424 => ?_)
          obtain rfl : x_424 = 200 := ex_424.trans (by decide)
          refine lv_iload hx hb dX12_put__82 (lv_at hl_422 0 rfl) ?_
          refine lv_iadd hx hb dX12_put__84 ?_
          refine lv_topi (fun x_425 ex_425 => ?_)
          obtain rfl : x_425 = 202 := ex_425.trans (by decide)
          refine lv_lload_n hx hb dX12_put__85 rfl (lv_at hl_422 5 rfl) ?_
          refine lv_bipush (v := 16) hx hb dX12_put__86 (by decide) ?_
          refine lv_iload_n hx hb dX12_put__88 rfl (lv_at hl_422 4 rfl) ?_
          refine lv_iconst (v := 1) hx hb dX12_put__89 (by decide) ?_
          refine lv_isub hx hb dX12_put__90 ?_
          refine lv_topi (fun x_426 ex_426 => ?_)
          obtain rfl : x_426 = 3 := ex_426.trans (by decide)
          refine lv_iload hx hb dX12_put__91 (lv_at hl_422 0 rfl) ?_
          refine lv_isub hx hb dX12_put__93 ?_
          refine lv_topi (fun x_427 ex_427 => ?_)
          obtain rfl : x_427 = 1 := ex_427.trans (by decide)
          refine lv_imul hx hb dX12_put__94 ?_
          refine lv_topi (fun x_428 ex_428 => ?_)
          obtain rfl : x_428 = 16 := ex_428.trans (by decide)
          refine lv_lshr (v := (w0 >>> ((16 : Int32).toInt64 &&& 63))) hx hb dX12_put__95 rfl ?_
          refine lv_ldc2 hx hb hown (ht _ tw_2813) dX12_put__96 ?_
          refine lv_land hx hb dX12_put__99 ?_
          refine lv_l2i (v := ((w0 >>> ((16 : Int32).toInt64 &&& 63)) &&& 65535).toInt32) hx hb dX12_put__100 rfl ?_
          refine va_iast hx hb hK_3 hP_421 hD_421 hS_421 3 2 rfl rfl (i := 202) (vpi (by decide)) dX12_put__101 (fun H_429 locs_429 hP_429 hD_429 hS_429 => ?_)
          have hP_429 : va_P (dC, dI) vwCl [(h0, .inr (15, [.int 0, .int 0, .ref h1, .int 0, .int (-1), .ref h2, .ref h3, .ref h4, .ref h5, .ref h6, .ref h7, .ref h8, .ref h9, .ref h10, .ref h11, .ref h12, .ref h13, .ref h14, .ref h15, .ref h16, .ref h17, .ref h18, .ref h19, .ref h20, .ref h21, .ref h22, .ref h23, .ref h24, .ref h25, .ref h26, .ref h27, .int 0, .ref h28, .ref h29, .int 0, .int 0, .int 0, .int 0, .int 0, .int 0, .ref h30, .int 0, .ref h31, .ref h32, .ref h33, .ref h34, .ref h35, .ref h36, .ref h37, .ref h38, .int 0, .int 0, .int 0, .int 0, .ref h39, .ref h40, .ref h41, .int 0, .ref h42, .int 0, .ref h43, .int 0, .int 0, .ref h44, .ref h45, .ref h46, .int 0, .ref h47, .ref h48, .ref h49, .ref h50, .ref h51, .ref h52, .ref h53, .int 0, .ref h54, .int 0, .ref h55, .ref h56, .ref h57, .int 0, .ref h58, .ref h59, .ref h60, .ref h61, .int 0, .ref h62, .ref h63, .ref h64, .ref h65, .int 0, .int 0, .int 0, .int 0, .int 0, .int 0, .int 0, .int 0, .int 0, .ref h66, .int 0, .ref h67, .int 0, .int 0, .int 0, .int 0, .int 0, .ref h68, .int 0, .int 0, .ref h69, .int 0, .ref h70, .int 0, .ref h71, .ref h72, .int 0, .ref h73, .ref h74, .ref h75, .ref h76, .long 0, .int 0, .ref h77, .ref h78, .ref h79, .ref h80, .ref h81, .ref h82, .ref h83, .ref h84, .ref h85, .ref h86, .ref h87, .ref h88, .ref h89, .ref h90, .ref h91, .int 0, .ref h92, .ref h93, .ref h94, .int 0])), (h48, .inl (k0, 4, .inl (fun _ => 0))), (h49, .inl (k1, 4, .inl (fun _ => 0))), (h50, .inl (k2, 400, .inl (upd (upd (upd (fun _ => 0) 200 (((w0 >>> ((48 : Int32).toInt64 &&& 63)) &&& 65535).toInt32)) 201 (((w0 >>> ((32 : Int32).toInt64 &&& 63)) &&& 65535).toInt32)) 202 (((w0 >>> ((16 : Int32).toInt64 &&& 63)) &&& 65535).toInt32))))] H_429 := hP_429
          have hD_429 : va_D A [(h0, .inr (15, [.int 0, .int 0, .ref h1, .int 0, .int (-1), .ref h2, .ref h3, .ref h4, .ref h5, .ref h6, .ref h7, .ref h8, .ref h9, .ref h10, .ref h11, .ref h12, .ref h13, .ref h14, .ref h15, .ref h16, .ref h17, .ref h18, .ref h19, .ref h20, .ref h21, .ref h22, .ref h23, .ref h24, .ref h25, .ref h26, .ref h27, .int 0, .ref h28, .ref h29, .int 0, .int 0, .int 0, .int 0, .int 0, .int 0, .ref h30, .int 0, .ref h31, .ref h32, .ref h33, .ref h34, .ref h35, .ref h36, .ref h37, .ref h38, .int 0, .int 0, .int 0, .int 0, .ref h39, .ref h40, .ref h41, .int 0, .ref h42, .int 0, .ref h43, .int 0, .int 0, .ref h44, .ref h45, .ref h46, .int 0, .ref h47, .ref h48, .ref h49, .ref h50, .ref h51, .ref h52, .ref h53, .int 0, .ref h54, .int 0, .ref h55, .ref h56, .ref h57, .int 0, .ref h58, .ref h59, .ref h60, .ref h61, .int 0, .ref h62, .ref h63, .ref h64, .ref h65, .int 0, .int 0, .int 0, .int 0, .int 0, .int 0, .int 0, .int 0, .int 0, .ref h66, .int 0, .ref h67, .int 0, .int 0, .int 0, .int 0, .int 0, .ref h68, .int 0, .int 0, .ref h69, .int 0, .ref h70, .int 0, .ref h71, .ref h72, .int 0, .ref h73, .ref h74, .ref h75, .ref h76, .long 0, .int 0, .ref h77, .ref h78, .ref h79, .ref h80, .ref h81, .ref h82, .ref h83, .ref h84, .ref h85, .ref h86, .ref h87, .ref h88, .ref h89, .ref h90, .ref h91, .int 0, .ref h92, .ref h93, .ref h94, .int 0])), (h48, .inl (k0, 4, .inl (fun _ => 0))), (h49, .inl (k1, 4, .inl (fun _ => 0))), (h50, .inl (k2, 400, .inl (upd (upd (upd (fun _ => 0) 200 (((w0 >>> ((48 : Int32).toInt64 &&& 63)) &&& 65535).toInt32)) 201 (((w0 >>> ((32 : Int32).toInt64 &&& 63)) &&& 65535).toInt32)) 202 (((w0 >>> ((16 : Int32).toInt64 &&& 63)) &&& 65535).toInt32))))] := hD_429
          clear hP_421 hD_421 hS_421
          refine lv_iinc (v := 3) (lv' := [(6, .int 3), (5, .int 0), (0, .ref h0), (1, .int 2), (2, .int 4), (3, .long w0)]) hx hb dX12_put__102 hl_422 (k := 0) rfl (by decide) (by decide) rfl (fun ls_430 hl_430 => ?_)
          clear hl_422
          refine lv_goto (tgt := 65) hx hb dX12_put__105 (by decide) ?_
          refine lv_iload hx hb dX12_put__65 (lv_at hl_430 0 rfl) ?_
          refine lv_iload_n hx hb dX12_put__67 rfl (lv_at hl_430 4 rfl) ?_
          refine lv_icmp_ge (tgt := 108) hx hb dX12_put__68 (by decide) (fun c_ => absurd c_ (by decide)) (fun _ => ?_)
          refine lv_aload_n hx hb dX12_put__71 rfl (lv_at hl_430 2 rfl) ?_
          refine va_get (D := (dC, dI)) (ci := 15) (v := .ref h50) (C := RX12) (T := TX12) (N := 143) hx hb ht inX12 hown hK_3 hP_429 0 rfl rfl 70 (by decide) (ht _ tw_2210) (fun _ h9 => h9) rfl dX12_put__72 ?_
          refine lv_bipush (v := 100) hx hb dX12_put__75 (by decide) ?_
          refine lv_iload_n hx hb dX12_put__77 rfl (lv_at hl_430 3 rfl) ?_
          refine lv_imul hx hb dX12_put__78 ?_
          refine lv_topi (fun x_431 ex_431 => ?_)
          obtain rfl : x_431 = 200 := ex_431.trans (by decide)
          refine lv_iload hx hb dX12_put__79 (lv_at hl_430 1 rfl) ?_
          refine lv_iadd hx hb dX12_put__81 ?_
          refine lv_topi (fun x_432 ex_432 => ?_)
          obtain rfl : x_432 = 200 := ex_432.trans (by decide)
          refine lv_iload hx hb dX12_put__82 (lv_at hl_430 0 rfl) ?_
          refine lv_iadd hx hb dX12_put__84 ?_
          refine lv_topi (fun x_433 ex_433 => ?_)
          obtain rfl : x_433 = 203 := ex_433.trans (by decide)
          refine lv_lload_n hx hb dX12_put__85 rfl (lv_at hl_430 5 rfl) ?_
          refine lv_bipush (v := 16) hx hb dX12_put__86 (by decide) ?_
          refine lv_iload_n hx hb dX12_put__88 rfl (lv_at hl_430 4 rfl) ?_
          refine lv_iconst (v := 1) hx hb dX12_put__89 (by decide) ?_
          refine lv_isub hx hb dX12_put__90 ?_
          refine lv_topi (fun x_434 ex_434 => ?_)
          obtain rfl : x_434 = 3 := ex_434.trans (by decide)
          refine lv_iload hx hb dX12_put__91 (lv_at hl_430 0 rfl) ?_
          refine lv_isub hx hb dX12_put__93 ?_
          refine lv_topi (fun x_435 ex_435 => ?_)
          obtain rfl : x_435 = 0 := ex_435.trans (by decide)
          refine lv_imul hx hb dX12_put__94 ?_
          refine lv_topi (fun x_436 ex_436 => ?_)
          obtain rfl : x_436 = 0 := ex_436.trans (by decide)
          refine lv_lshr (v := (w0 >>> ((0 : Int32).toInt64 &&& 63))) hx hb dX12_put__95 rfl ?_
          refine lv_ldc2 hx hb hown (ht _ tw_2813) dX12_put__96 ?_
          refine lv_land hx hb dX12_put__99 ?_
          refine lv_l2i (v := ((w0 >>> ((0 : Int32).toInt64 &&& 63)) &&& 65535).toInt32) hx hb dX12_put__100 rfl ?_
          refine va_iast hx hb hK_3 hP_429 hD_429 hS_429 3 2 rfl rfl (i := 203) (vpi (by decide)) dX12_put__101 (fun H_437 locs_437 hP_437 hD_437 hS_437 => ?_)
          have hP_437 : va_P (dC, dI) vwCl [(h0, .inr (15, [.int 0, .int 0, .ref h1, .int 0, .int (-1), .ref h2, .ref h3, .ref h4, .ref h5, .ref h6, .ref h7, .ref h8, .ref h9, .ref h10, .ref h11, .ref h12, .ref h13, .ref h14, .ref h15, .ref h16, .ref h17, .ref h18, .ref h19, .ref h20, .ref h21, .ref h22, .ref h23, .ref h24, .ref h25, .ref h26, .ref h27, .int 0, .ref h28, .ref h29, .int 0, .int 0, .int 0, .int 0, .int 0, .int 0, .ref h30, .int 0, .ref h31, .ref h32, .ref h33, .ref h34, .ref h35, .ref h36, .ref h37, .ref h38, .int 0, .int 0, .int 0, .int 0, .ref h39, .ref h40, .ref h41, .int 0, .ref h42, .int 0, .ref h43, .int 0, .int 0, .ref h44, .ref h45, .ref h46, .int 0, .ref h47, .ref h48, .ref h49, .ref h50, .ref h51, .ref h52, .ref h53, .int 0, .ref h54, .int 0, .ref h55, .ref h56, .ref h57, .int 0, .ref h58, .ref h59, .ref h60, .ref h61, .int 0, .ref h62, .ref h63, .ref h64, .ref h65, .int 0, .int 0, .int 0, .int 0, .int 0, .int 0, .int 0, .int 0, .int 0, .ref h66, .int 0, .ref h67, .int 0, .int 0, .int 0, .int 0, .int 0, .ref h68, .int 0, .int 0, .ref h69, .int 0, .ref h70, .int 0, .ref h71, .ref h72, .int 0, .ref h73, .ref h74, .ref h75, .ref h76, .long 0, .int 0, .ref h77, .ref h78, .ref h79, .ref h80, .ref h81, .ref h82, .ref h83, .ref h84, .ref h85, .ref h86, .ref h87, .ref h88, .ref h89, .ref h90, .ref h91, .int 0, .ref h92, .ref h93, .ref h94, .int 0])), (h48, .inl (k0, 4, .inl (fun _ => 0))), (h49, .inl (k1, 4, .inl (fun _ => 0))), (h50, .inl (k2, 400, .inl (upd (upd (upd (upd (fun _ => 0) 200 (((w0 >>> ((48 : Int32).toInt64 &&& 63)) &&& 65535).toInt32)) 201 (((w0 >>> ((32 : Int32).toInt64 &&& 63)) &&& 65535).toInt32)) 202 (((w0 >>> ((16 : Int32).toInt64 &&& 63)) &&& 65535).toInt32)) 203 (((w0 >>> ((0 : Int32).toInt64 &&& 63)) &&& 65535).toInt32))))] H_437 := hP_437
          have hD_437 : va_D A [(h0, .inr (15, [.int 0, .int 0, .ref h1, .int 0, .int (-1), .ref h2, .ref h3, .ref h4, .ref h5, .ref h6, .ref h7, .ref h8, .ref h9, .ref h10, .ref h11, .ref h12, .ref h13, .ref h14, .ref h15, .ref h16, .ref h17, .ref h18, .ref h19, .ref h20, .ref h21, .ref h22, .ref h23, .ref h24, .ref h25, .ref h26, .ref h27, .int 0, .ref h28, .ref h29, .int 0, .int 0, .int 0, .int 0, .int 0, .int 0, .ref h30, .int 0, .ref h31, .ref h32, .ref h33, .ref h34, .ref h35, .ref h36, .ref h37, .ref h38, .int 0, .int 0, .int 0, .int 0, .ref h39, .ref h40, .ref h41, .int 0, .ref h42, .int 0, .ref h43, .int 0, .int 0, .ref h44, .ref h45, .ref h46, .int 0, .ref h47, .ref h48, .ref h49, .ref h50, .ref h51, .ref h52, .ref h53, .int 0, .ref h54, .int 0, .ref h55, .ref h56, .ref h57, .int 0, .ref h58, .ref h59, .ref h60, .ref h61, .int 0, .ref h62, .ref h63, .ref h64, .ref h65, .int 0, .int 0, .int 0, .int 0, .int 0, .int 0, .int 0, .int 0, .int 0, .ref h66, .int 0, .ref h67, .int 0, .int 0, .int 0, .int 0, .int 0, .ref h68, .int 0, .int 0, .ref h69, .int 0, .ref h70, .int 0, .ref h71, .ref h72, .int 0, .ref h73, .ref h74, .ref h75, .ref h76, .long 0, .int 0, .ref h77, .ref h78, .ref h79, .ref h80, .ref h81, .ref h82, .ref h83, .ref h84, .ref h85, .ref h86, .ref h87, .ref h88, .ref h89, .ref h90, .ref h91, .int 0, .ref h92, .ref h93, .ref h94, .int 0])), (h48, .inl (k0, 4, .inl (fun _ => 0))), (h49, .inl (k1, 4, .inl (fun _ => 0))), (h50, .inl (k2, 400, .inl (upd (upd (upd (upd (fun _ => 0) 200 (((w0 >>> ((48 : Int32).toInt64 &&& 63)) &&& 65535).toInt32)) 201 (((w0 >>> ((32 : Int32).toInt64 &&& 63)) &&& 65535).toInt32)) 202 (((w0 >>> ((16 : Int32).toInt64 &&& 63)) &&& 65535).toInt32)) 203 (((w0 >>> ((0 : Int32).toInt64 &&& 63)) &&& 65535).toInt32))))] := hD_437
          clear hP_429 hD_429 hS_429
          refine lv_iinc (v := 4) (lv' := [(6, .int 4), (5, .int 0), (0, .ref h0), (1, .int 2), (2, .int 4), (3, .long w0)]) hx hb dX12_put__102 hl_430 (k := 0) rfl (by decide) (by decide) rfl (fun ls_438 hl_438 => ?_)
          clear hl_430
          refine lv_goto (tgt := 65) hx hb dX12_put__105 (by decide) ?_
          refine lv_iload hx hb dX12_put__65 (lv_at hl_438 0 rfl) ?_
          refine lv_iload_n hx hb dX12_put__67 rfl (lv_at hl_438 4 rfl) ?_
          refine lv_icmp_ge (tgt := 108) hx hb dX12_put__68 (by decide) (fun _ => ?_) (fun c_ => absurd (by decide) c_)
          refine lv_aload_n hx hb dX12_put__108 rfl (lv_at hl_438 2 rfl) ?_
          refine va_get (D := (dC, dI)) (ci := 15) (v := .ref h48) (C := RX12) (T := TX12) (N := 143) hx hb ht inX12 hown hK_3 hP_437 0 rfl rfl 68 (by decide) (ht _ tw_2208) (fun _ h9 => h9) rfl dX12_put__109 ?_
          refine lv_iload_n hx hb dX12_put__112 rfl (lv_at hl_438 3 rfl) ?_
          refine lv_iconst (v := 1) hx hb dX12_put__113 (by decide) ?_
          refine va_zast hx hb hK_3 hP_437 hD_437 hS_437 1 0 rfl rfl (i := 2) (vpi (by decide)) dX12_put__114 (fun H_439 locs_439 hP_439 hD_439 hS_439 => ?_)
          have hP_439 : va_P (dC, dI) vwCl [(h0, .inr (15, [.int 0, .int 0, .ref h1, .int 0, .int (-1), .ref h2, .ref h3, .ref h4, .ref h5, .ref h6, .ref h7, .ref h8, .ref h9, .ref h10, .ref h11, .ref h12, .ref h13, .ref h14, .ref h15, .ref h16, .ref h17, .ref h18, .ref h19, .ref h20, .ref h21, .ref h22, .ref h23, .ref h24, .ref h25, .ref h26, .ref h27, .int 0, .ref h28, .ref h29, .int 0, .int 0, .int 0, .int 0, .int 0, .int 0, .ref h30, .int 0, .ref h31, .ref h32, .ref h33, .ref h34, .ref h35, .ref h36, .ref h37, .ref h38, .int 0, .int 0, .int 0, .int 0, .ref h39, .ref h40, .ref h41, .int 0, .ref h42, .int 0, .ref h43, .int 0, .int 0, .ref h44, .ref h45, .ref h46, .int 0, .ref h47, .ref h48, .ref h49, .ref h50, .ref h51, .ref h52, .ref h53, .int 0, .ref h54, .int 0, .ref h55, .ref h56, .ref h57, .int 0, .ref h58, .ref h59, .ref h60, .ref h61, .int 0, .ref h62, .ref h63, .ref h64, .ref h65, .int 0, .int 0, .int 0, .int 0, .int 0, .int 0, .int 0, .int 0, .int 0, .ref h66, .int 0, .ref h67, .int 0, .int 0, .int 0, .int 0, .int 0, .ref h68, .int 0, .int 0, .ref h69, .int 0, .ref h70, .int 0, .ref h71, .ref h72, .int 0, .ref h73, .ref h74, .ref h75, .ref h76, .long 0, .int 0, .ref h77, .ref h78, .ref h79, .ref h80, .ref h81, .ref h82, .ref h83, .ref h84, .ref h85, .ref h86, .ref h87, .ref h88, .ref h89, .ref h90, .ref h91, .int 0, .ref h92, .ref h93, .ref h94, .int 0])), (h48, .inl (k0, 4, .inl (upd (fun _ => 0) 2 1))), (h49, .inl (k1, 4, .inl (fun _ => 0))), (h50, .inl (k2, 400, .inl (upd (upd (upd (upd (fun _ => 0) 200 (((w0 >>> ((48 : Int32).toInt64 &&& 63)) &&& 65535).toInt32)) 201 (((w0 >>> ((32 : Int32).toInt64 &&& 63)) &&& 65535).toInt32)) 202 (((w0 >>> ((16 : Int32).toInt64 &&& 63)) &&& 65535).toInt32)) 203 (((w0 >>> ((0 : Int32).toInt64 &&& 63)) &&& 65535).toInt32))))] H_439 := hP_439
          have hD_439 : va_D A [(h0, .inr (15, [.int 0, .int 0, .ref h1, .int 0, .int (-1), .ref h2, .ref h3, .ref h4, .ref h5, .ref h6, .ref h7, .ref h8, .ref h9, .ref h10, .ref h11, .ref h12, .ref h13, .ref h14, .ref h15, .ref h16, .ref h17, .ref h18, .ref h19, .ref h20, .ref h21, .ref h22, .ref h23, .ref h24, .ref h25, .ref h26, .ref h27, .int 0, .ref h28, .ref h29, .int 0, .int 0, .int 0, .int 0, .int 0, .int 0, .ref h30, .int 0, .ref h31, .ref h32, .ref h33, .ref h34, .ref h35, .ref h36, .ref h37, .ref h38, .int 0, .int 0, .int 0, .int 0, .ref h39, .ref h40, .ref h41, .int 0, .ref h42, .int 0, .ref h43, .int 0, .int 0, .ref h44, .ref h45, .ref h46, .int 0, .ref h47, .ref h48, .ref h49, .ref h50, .ref h51, .ref h52, .ref h53, .int 0, .ref h54, .int 0, .ref h55, .ref h56, .ref h57, .int 0, .ref h58, .ref h59, .ref h60, .ref h61, .int 0, .ref h62, .ref h63, .ref h64, .ref h65, .int 0, .int 0, .int 0, .int 0, .int 0, .int 0, .int 0, .int 0, .int 0, .ref h66, .int 0, .ref h67, .int 0, .int 0, .int 0, .int 0, .int 0, .ref h68, .int 0, .int 0, .ref h69, .int 0, .ref h70, .int 0, .ref h71, .ref h72, .int 0, .ref h73, .ref h74, .ref h75, .ref h76, .long 0, .int 0, .ref h77, .ref h78, .ref h79, .ref h80, .ref h81, .ref h82, .ref h83, .ref h84, .ref h85, .ref h86, .ref h87, .ref h88, .ref h89, .ref h90, .ref h91, .int 0, .ref h92, .ref h93, .ref h94, .int 0])), (h48, .inl (k0, 4, .inl (upd (fun _ => 0) 2 1))), (h49, .inl (k1, 4, .inl (fun _ => 0))), (h50, .inl (k2, 400, .inl (upd (upd (upd (upd (fun _ => 0) 200 (((w0 >>> ((48 : Int32).toInt64 &&& 63)) &&& 65535).toInt32)) 201 (((w0 >>> ((32 : Int32).toInt64 &&& 63)) &&& 65535).toInt32)) 202 (((w0 >>> ((16 : Int32).toInt64 &&& 63)) &&& 65535).toInt32)) 203 (((w0 >>> ((0 : Int32).toInt64 &&& 63)) &&& 65535).toInt32))))] := hD_439
          clear hP_437 hD_437 hS_437
          refine lv_aload_n hx hb dX12_put__115 rfl (lv_at hl_438 2 rfl) ?_
          refine va_get (D := (dC, dI)) (ci := 15) (v := .ref h49) (C := RX12) (T := TX12) (N := 143) hx hb ht inX12 hown hK_3 hP_439 0 rfl rfl 69 (by decide) (ht _ tw_2209) (fun _ h9 => h9) rfl dX12_put__116 ?_
          refine lv_iload_n hx hb dX12_put__119 rfl (lv_at hl_438 3 rfl) ?_
          refine lv_iload hx hb dX12_put__120 (lv_at hl_438 1 rfl) ?_
          refine lv_iload_n hx hb dX12_put__122 rfl (lv_at hl_438 4 rfl) ?_
          refine lv_iadd hx hb dX12_put__123 ?_
          refine lv_topi (fun x_440 ex_440 => ?_)
          obtain rfl : x_440 = 4 := ex_440.trans (by decide)
          refine va_iast hx hb hK_3 hP_439 hD_439 hS_439 2 1 rfl rfl (i := 2) (vpi (by decide)) dX12_put__124 (fun H_441 locs_441 hP_441 hD_441 hS_441 => ?_)
          have hP_441 : va_P (dC, dI) vwCl [(h0, .inr (15, [.int 0, .int 0, .ref h1, .int 0, .int (-1), .ref h2, .ref h3, .ref h4, .ref h5, .ref h6, .ref h7, .ref h8, .ref h9, .ref h10, .ref h11, .ref h12, .ref h13, .ref h14, .ref h15, .ref h16, .ref h17, .ref h18, .ref h19, .ref h20, .ref h21, .ref h22, .ref h23, .ref h24, .ref h25, .ref h26, .ref h27, .int 0, .ref h28, .ref h29, .int 0, .int 0, .int 0, .int 0, .int 0, .int 0, .ref h30, .int 0, .ref h31, .ref h32, .ref h33, .ref h34, .ref h35, .ref h36, .ref h37, .ref h38, .int 0, .int 0, .int 0, .int 0, .ref h39, .ref h40, .ref h41, .int 0, .ref h42, .int 0, .ref h43, .int 0, .int 0, .ref h44, .ref h45, .ref h46, .int 0, .ref h47, .ref h48, .ref h49, .ref h50, .ref h51, .ref h52, .ref h53, .int 0, .ref h54, .int 0, .ref h55, .ref h56, .ref h57, .int 0, .ref h58, .ref h59, .ref h60, .ref h61, .int 0, .ref h62, .ref h63, .ref h64, .ref h65, .int 0, .int 0, .int 0, .int 0, .int 0, .int 0, .int 0, .int 0, .int 0, .ref h66, .int 0, .ref h67, .int 0, .int 0, .int 0, .int 0, .int 0, .ref h68, .int 0, .int 0, .ref h69, .int 0, .ref h70, .int 0, .ref h71, .ref h72, .int 0, .ref h73, .ref h74, .ref h75, .ref h76, .long 0, .int 0, .ref h77, .ref h78, .ref h79, .ref h80, .ref h81, .ref h82, .ref h83, .ref h84, .ref h85, .ref h86, .ref h87, .ref h88, .ref h89, .ref h90, .ref h91, .int 0, .ref h92, .ref h93, .ref h94, .int 0])), (h48, .inl (k0, 4, .inl (upd (fun _ => 0) 2 1))), (h49, .inl (k1, 4, .inl (upd (fun _ => 0) 2 4))), (h50, .inl (k2, 400, .inl (upd (upd (upd (upd (fun _ => 0) 200 (((w0 >>> ((48 : Int32).toInt64 &&& 63)) &&& 65535).toInt32)) 201 (((w0 >>> ((32 : Int32).toInt64 &&& 63)) &&& 65535).toInt32)) 202 (((w0 >>> ((16 : Int32).toInt64 &&& 63)) &&& 65535).toInt32)) 203 (((w0 >>> ((0 : Int32).toInt64 &&& 63)) &&& 65535).toInt32))))] H_441 := hP_441
          have hD_441 : va_D A [(h0, .inr (15, [.int 0, .int 0, .ref h1, .int 0, .int (-1), .ref h2, .ref h3, .ref h4, .ref h5, .ref h6, .ref h7, .ref h8, .ref h9, .ref h10, .ref h11, .ref h12, .ref h13, .ref h14, .ref h15, .ref h16, .ref h17, .ref h18, .ref h19, .ref h20, .ref h21, .ref h22, .ref h23, .ref h24, .ref h25, .ref h26, .ref h27, .int 0, .ref h28, .ref h29, .int 0, .int 0, .int 0, .int 0, .int 0, .int 0, .ref h30, .int 0, .ref h31, .ref h32, .ref h33, .ref h34, .ref h35, .ref h36, .ref h37, .ref h38, .int 0, .int 0, .int 0, .int 0, .ref h39, .ref h40, .ref h41, .int 0, .ref h42, .int 0, .ref h43, .int 0, .int 0, .ref h44, .ref h45, .ref h46, .int 0, .ref h47, .ref h48, .ref h49, .ref h50, .ref h51, .ref h52, .ref h53, .int 0, .ref h54, .int 0, .ref h55, .ref h56, .ref h57, .int 0, .ref h58, .ref h59, .ref h60, .ref h61, .int 0, .ref h62, .ref h63, .ref h64, .ref h65, .int 0, .int 0, .int 0, .int 0, .int 0, .int 0, .int 0, .int 0, .int 0, .ref h66, .int 0, .ref h67, .int 0, .int 0, .int 0, .int 0, .int 0, .ref h68, .int 0, .int 0, .ref h69, .int 0, .ref h70, .int 0, .ref h71, .ref h72, .int 0, .ref h73, .ref h74, .ref h75, .ref h76, .long 0, .int 0, .ref h77, .ref h78, .ref h79, .ref h80, .ref h81, .ref h82, .ref h83, .ref h84, .ref h85, .ref h86, .ref h87, .ref h88, .ref h89, .ref h90, .ref h91, .int 0, .ref h92, .ref h93, .ref h94, .int 0])), (h48, .inl (k0, 4, .inl (upd (fun _ => 0) 2 1))), (h49, .inl (k1, 4, .inl (upd (fun _ => 0) 2 4))), (h50, .inl (k2, 400, .inl (upd (upd (upd (upd (fun _ => 0) 200 (((w0 >>> ((48 : Int32).toInt64 &&& 63)) &&& 65535).toInt32)) 201 (((w0 >>> ((32 : Int32).toInt64 &&& 63)) &&& 65535).toInt32)) 202 (((w0 >>> ((16 : Int32).toInt64 &&& 63)) &&& 65535).toInt32)) 203 (((w0 >>> ((0 : Int32).toInt64 &&& 63)) &&& 65535).toInt32))))] := hD_441
          clear hP_439 hD_439 hS_439
          refine lv_aload_n hx hb dX12_put__125 rfl (lv_at hl_438 2 rfl) ?_
          refine lv_aload_n hx hb dX12_put__126 rfl (lv_at hl_438 2 rfl) ?_
          refine va_get (D := (dC, dI)) (ci := 15) (v := .int 0) (C := RX12) (T := TX12) (N := 143) hx hb ht inX12 hown hK_3 hP_441 0 rfl rfl 102 (by decide) (ht _ tw_2242) (fun _ h9 => h9) rfl dX12_put__127 ?_
          refine lv_if_eq (tgt := 145) hx hb dX12_put__130 (by decide) (fun _ => ?_) (fun c_ => absurd (by decide) c_)
          refine lv_iconst (v := 0) hx hb dX12_put__145 (by decide) ?_
          refine va_put (D := (dC, dI)) (ci := 15) (v := .int 0) (ty := .boolean) (C := RX12) (T := TX12) (N := 143) hx hb ht inX12 tyX12 tyX12_ok nmX12 hown hK_3 hP_441 hD_441 hS_441 0 rfl rfl 102 (by decide) (ht _ tw_2242) (fun _ h9 => h9) rfl (by decide +kernel) rfl rfl (Nat.le_of_ble_eq_true rfl) dX12_put__146 (fun H_442 locs_442 hP_442 hD_442 hS_442 => ?_)
          have hP_442 : va_P (dC, dI) vwCl [(h0, .inr (15, [.int 0, .int 0, .ref h1, .int 0, .int (-1), .ref h2, .ref h3, .ref h4, .ref h5, .ref h6, .ref h7, .ref h8, .ref h9, .ref h10, .ref h11, .ref h12, .ref h13, .ref h14, .ref h15, .ref h16, .ref h17, .ref h18, .ref h19, .ref h20, .ref h21, .ref h22, .ref h23, .ref h24, .ref h25, .ref h26, .ref h27, .int 0, .ref h28, .ref h29, .int 0, .int 0, .int 0, .int 0, .int 0, .int 0, .ref h30, .int 0, .ref h31, .ref h32, .ref h33, .ref h34, .ref h35, .ref h36, .ref h37, .ref h38, .int 0, .int 0, .int 0, .int 0, .ref h39, .ref h40, .ref h41, .int 0, .ref h42, .int 0, .ref h43, .int 0, .int 0, .ref h44, .ref h45, .ref h46, .int 0, .ref h47, .ref h48, .ref h49, .ref h50, .ref h51, .ref h52, .ref h53, .int 0, .ref h54, .int 0, .ref h55, .ref h56, .ref h57, .int 0, .ref h58, .ref h59, .ref h60, .ref h61, .int 0, .ref h62, .ref h63, .ref h64, .ref h65, .int 0, .int 0, .int 0, .int 0, .int 0, .int 0, .int 0, .int 0, .int 0, .ref h66, .int 0, .ref h67, .int 0, .int 0, .int 0, .int 0, .int 0, .ref h68, .int 0, .int 0, .ref h69, .int 0, .ref h70, .int 0, .ref h71, .ref h72, .int 0, .ref h73, .ref h74, .ref h75, .ref h76, .long 0, .int 0, .ref h77, .ref h78, .ref h79, .ref h80, .ref h81, .ref h82, .ref h83, .ref h84, .ref h85, .ref h86, .ref h87, .ref h88, .ref h89, .ref h90, .ref h91, .int 0, .ref h92, .ref h93, .ref h94, .int 0])), (h48, .inl (k0, 4, .inl (upd (fun _ => 0) 2 1))), (h49, .inl (k1, 4, .inl (upd (fun _ => 0) 2 4))), (h50, .inl (k2, 400, .inl (upd (upd (upd (upd (fun _ => 0) 200 (((w0 >>> ((48 : Int32).toInt64 &&& 63)) &&& 65535).toInt32)) 201 (((w0 >>> ((32 : Int32).toInt64 &&& 63)) &&& 65535).toInt32)) 202 (((w0 >>> ((16 : Int32).toInt64 &&& 63)) &&& 65535).toInt32)) 203 (((w0 >>> ((0 : Int32).toInt64 &&& 63)) &&& 65535).toInt32))))] H_442 := hP_442
          have hD_442 : va_D A [(h0, .inr (15, [.int 0, .int 0, .ref h1, .int 0, .int (-1), .ref h2, .ref h3, .ref h4, .ref h5, .ref h6, .ref h7, .ref h8, .ref h9, .ref h10, .ref h11, .ref h12, .ref h13, .ref h14, .ref h15, .ref h16, .ref h17, .ref h18, .ref h19, .ref h20, .ref h21, .ref h22, .ref h23, .ref h24, .ref h25, .ref h26, .ref h27, .int 0, .ref h28, .ref h29, .int 0, .int 0, .int 0, .int 0, .int 0, .int 0, .ref h30, .int 0, .ref h31, .ref h32, .ref h33, .ref h34, .ref h35, .ref h36, .ref h37, .ref h38, .int 0, .int 0, .int 0, .int 0, .ref h39, .ref h40, .ref h41, .int 0, .ref h42, .int 0, .ref h43, .int 0, .int 0, .ref h44, .ref h45, .ref h46, .int 0, .ref h47, .ref h48, .ref h49, .ref h50, .ref h51, .ref h52, .ref h53, .int 0, .ref h54, .int 0, .ref h55, .ref h56, .ref h57, .int 0, .ref h58, .ref h59, .ref h60, .ref h61, .int 0, .ref h62, .ref h63, .ref h64, .ref h65, .int 0, .int 0, .int 0, .int 0, .int 0, .int 0, .int 0, .int 0, .int 0, .ref h66, .int 0, .ref h67, .int 0, .int 0, .int 0, .int 0, .int 0, .ref h68, .int 0, .int 0, .ref h69, .int 0, .ref h70, .int 0, .ref h71, .ref h72, .int 0, .ref h73, .ref h74, .ref h75, .ref h76, .long 0, .int 0, .ref h77, .ref h78, .ref h79, .ref h80, .ref h81, .ref h82, .ref h83, .ref h84, .ref h85, .ref h86, .ref h87, .ref h88, .ref h89, .ref h90, .ref h91, .int 0, .ref h92, .ref h93, .ref h94, .int 0])), (h48, .inl (k0, 4, .inl (upd (fun _ => 0) 2 1))), (h49, .inl (k1, 4, .inl (upd (fun _ => 0) 2 4))), (h50, .inl (k2, 400, .inl (upd (upd (upd (upd (fun _ => 0) 200 (((w0 >>> ((48 : Int32).toInt64 &&& 63)) &&& 65535).toInt32)) 201 (((w0 >>> ((32 : Int32).toInt64 &&& 63)) &&& 65535).toInt32)) 202 (((w0 >>> ((16 : Int32).toInt64 &&& 63)) &&& 65535).toInt32)) 203 (((w0 >>> ((0 : Int32).toInt64 &&& 63)) &&& 65535).toInt32))))] := hD_442
          clear hP_441 hD_441 hS_441
          refine lv_iload hx hb dX12_put__149 (lv_at hl_438 1 rfl) ?_
          refine lv_iload_n hx hb dX12_put__151 rfl (lv_at hl_438 4 rfl) ?_
          refine lv_iadd hx hb dX12_put__152 ?_
          refine lv_topi (fun x_443 ex_443 => ?_)
          obtain rfl : x_443 = 4 := ex_443.trans (by decide)
          have hP9 := hP_442.sub (ws' := []) [] rfl
          have hD9 := hD_442.sub (ws' := []) [] (by decide) rfl
          have hK9 := hK_3.sub (tys' := []) [] rfl
          refine W.widen (k := 0) (n := 0) (by decide) (by decide) ?_
          exact W.iret (v := 4) hx hb hr (fun t9 ht9 hW9 => ⟨⟨4, 4, rfl, (Or.inr (Or.inr (Or.inr (Or.inr ⟨rfl, rfl, cc_2_0, cc_2_1, cc_3_0, cc_3_1⟩)))), ⟨by rw [ht9]; exact hP9, va_K.moved hW9.alike hK9, hD9⟩⟩, hS_442.F ht9⟩) hS_442.2.2 dX12_put__153
        · refine va_zald hx hb hK_3 hP_3 1 0 rfl rfl (i := 3) (vpi (by decide)) dX12_put__34 ?_
          refine W.eq (g2 := F0 m 35 ls [.int 0]) rfl ?_
          refine lv_if_eq (tgt := 47) hx hb dX12_put__35 (by decide) (fun _ => ?_) (fun c_ => absurd (by decide) c_)
          refine lv_iconst (v := 0) hx hb dX12_put__47 (by decide) ?_
          refine lv_istore (lv' := [(5, .int 0), (0, .ref h0), (1, .int 3), (2, .int 4), (3, .long w0)]) hx hb dX12_put__48 hl (by decide) rfl (fun ls_444 hl_444 => ?_)
          clear hl
          refine lv_iload hx hb dX12_put__50 (lv_at hl_444 0 rfl) ?_
          refine lv_iload_n hx hb dX12_put__52 rfl (lv_at hl_444 3 rfl) ?_
          refine lv_iadd hx hb dX12_put__53 ?_
          refine lv_topi (fun x_445 ex_445 => ?_)
          obtain rfl : x_445 = 4 := ex_445.trans (by decide)
          refine lv_bipush (v := 100) hx hb dX12_put__54 (by decide) ?_
          refine lv_icmp_le (tgt := 62) hx hb dX12_put__56 (by decide) (fun _ => ?_) (fun c_ => absurd (by decide) c_)
          refine lv_iconst (v := 0) hx hb dX12_put__62 (by decide) ?_
          refine lv_istore (lv' := [(6, .int 0), (5, .int 0), (0, .ref h0), (1, .int 3), (2, .int 4), (3, .long w0)]) hx hb dX12_put__63 hl_444 (by decide) rfl (fun ls_446 hl_446 => ?_)
          clear hl_444
          refine lv_iload hx hb dX12_put__65 (lv_at hl_446 0 rfl) ?_
          refine lv_iload_n hx hb dX12_put__67 rfl (lv_at hl_446 4 rfl) ?_
          refine lv_icmp_ge (tgt := 108) hx hb dX12_put__68 (by decide) (fun c_ => absurd c_ (by decide)) (fun _ => ?_)
          refine lv_aload_n hx hb dX12_put__71 rfl (lv_at hl_446 2 rfl) ?_
          refine va_get (D := (dC, dI)) (ci := 15) (v := .ref h50) (C := RX12) (T := TX12) (N := 143) hx hb ht inX12 hown hK_3 hP_3 0 rfl rfl 70 (by decide) (ht _ tw_2210) (fun _ h9 => h9) rfl dX12_put__72 ?_
          refine lv_bipush (v := 100) hx hb dX12_put__75 (by decide) ?_
          refine lv_iload_n hx hb dX12_put__77 rfl (lv_at hl_446 3 rfl) ?_
          refine lv_imul hx hb dX12_put__78 ?_
          refine lv_topi (fun x_447 ex_447 => ?_)
          obtain rfl : x_447 = 300 := ex_447.trans (by decide)
          refine lv_iload hx hb dX12_put__79 (lv_at hl_446 1 rfl) ?_
          refine lv_iadd hx hb dX12_put__81 ?_
          refine lv_topi (fun x_448 ex_448 => ?_)
          obtain rfl : x_448 = 300 := ex_448.trans (by decide)
          refine lv_iload hx hb dX12_put__82 (lv_at hl_446 0 rfl) ?_
          refine lv_iadd hx hb dX12_put__84 ?_
          refine lv_topi (fun x_449 ex_449 => ?_)
          obtain rfl : x_449 = 300 := ex_449.trans (by decide)
          refine lv_lload_n hx hb dX12_put__85 rfl (lv_at hl_446 5 rfl) ?_
          refine lv_bipush (v := 16) hx hb dX12_put__86 (by decide) ?_
          refine lv_iload_n hx hb dX12_put__88 rfl (lv_at hl_446 4 rfl) ?_
          refine lv_iconst (v := 1) hx hb dX12_put__89 (by decide) ?_
          refine lv_isub hx hb dX12_put__90 ?_
          refine lv_topi (fun x_450 ex_450 => ?_)
          obtain rfl : x_450 = 3 := ex_450.trans (by decide)
          refine lv_iload hx hb dX12_put__91 (lv_at hl_446 0 rfl) ?_
          refine lv_isub hx hb dX12_put__93 ?_
          refine lv_topi (fun x_451 ex_451 => ?_)
          obtain rfl : x_451 = 3 := ex_451.trans (by decide)
          refine lv_imul hx hb dX12_put__94 ?_
          refine lv_topi (fun x_452 ex_452 => ?_)
          obtain rfl : x_452 = 48 := ex_452.trans (by decide)
          refine lv_lshr (v := (w0 >>> ((48 : Int32).toInt64 &&& 63))) hx hb dX12_put__95 rfl ?_
          refine lv_ldc2 hx hb hown (ht _ tw_2813) dX12_put__96 ?_
          refine lv_land hx hb dX12_put__99 ?_
          refine lv_l2i (v := ((w0 >>> ((48 : Int32).toInt64 &&& 63)) &&& 65535).toInt32) hx hb dX12_put__100 rfl ?_
          refine va_iast hx hb hK_3 hP_3 hD_3 hS_3 3 2 rfl rfl (i := 300) (vpi (by decide)) dX12_put__101 (fun H_453 locs_453 hP_453 hD_453 hS_453 => ?_)
          have hP_453 : va_P (dC, dI) vwCl [(h0, .inr (15, [.int 0, .int 0, .ref h1, .int 0, .int (-1), .ref h2, .ref h3, .ref h4, .ref h5, .ref h6, .ref h7, .ref h8, .ref h9, .ref h10, .ref h11, .ref h12, .ref h13, .ref h14, .ref h15, .ref h16, .ref h17, .ref h18, .ref h19, .ref h20, .ref h21, .ref h22, .ref h23, .ref h24, .ref h25, .ref h26, .ref h27, .int 0, .ref h28, .ref h29, .int 0, .int 0, .int 0, .int 0, .int 0, .int 0, .ref h30, .int 0, .ref h31, .ref h32, .ref h33, .ref h34, .ref h35, .ref h36, .ref h37, .ref h38, .int 0, .int 0, .int 0, .int 0, .ref h39, .ref h40, .ref h41, .int 0, .ref h42, .int 0, .ref h43, .int 0, .int 0, .ref h44, .ref h45, .ref h46, .int 0, .ref h47, .ref h48, .ref h49, .ref h50, .ref h51, .ref h52, .ref h53, .int 0, .ref h54, .int 0, .ref h55, .ref h56, .ref h57, .int 0, .ref h58, .ref h59, .ref h60, .ref h61, .int 0, .ref h62, .ref h63, .ref h64, .ref h65, .int 0, .int 0, .int 0, .int 0, .int 0, .int 0, .int 0, .int 0, .int 0, .ref h66, .int 0, .ref h67, .int 0, .int 0, .int 0, .int 0, .int 0, .ref h68, .int 0, .int 0, .ref h69, .int 0, .ref h70, .int 0, .ref h71, .ref h72, .int 0, .ref h73, .ref h74, .ref h75, .ref h76, .long 0, .int 0, .ref h77, .ref h78, .ref h79, .ref h80, .ref h81, .ref h82, .ref h83, .ref h84, .ref h85, .ref h86, .ref h87, .ref h88, .ref h89, .ref h90, .ref h91, .int 0, .ref h92, .ref h93, .ref h94, .int 0])), (h48, .inl (k0, 4, .inl (fun _ => 0))), (h49, .inl (k1, 4, .inl (fun _ => 0))), (h50, .inl (k2, 400, .inl (upd (fun _ => 0) 300 (((w0 >>> ((48 : Int32).toInt64 &&& 63)) &&& 65535).toInt32))))] H_453 := hP_453
          have hD_453 : va_D A [(h0, .inr (15, [.int 0, .int 0, .ref h1, .int 0, .int (-1), .ref h2, .ref h3, .ref h4, .ref h5, .ref h6, .ref h7, .ref h8, .ref h9, .ref h10, .ref h11, .ref h12, .ref h13, .ref h14, .ref h15, .ref h16, .ref h17, .ref h18, .ref h19, .ref h20, .ref h21, .ref h22, .ref h23, .ref h24, .ref h25, .ref h26, .ref h27, .int 0, .ref h28, .ref h29, .int 0, .int 0, .int 0, .int 0, .int 0, .int 0, .ref h30, .int 0, .ref h31, .ref h32, .ref h33, .ref h34, .ref h35, .ref h36, .ref h37, .ref h38, .int 0, .int 0, .int 0, .int 0, .ref h39, .ref h40, .ref h41, .int 0, .ref h42, .int 0, .ref h43, .int 0, .int 0, .ref h44, .ref h45, .ref h46, .int 0, .ref h47, .ref h48, .ref h49, .ref h50, .ref h51, .ref h52, .ref h53, .int 0, .ref h54, .int 0, .ref h55, .ref h56, .ref h57, .int 0, .ref h58, .ref h59, .ref h60, .ref h61, .int 0, .ref h62, .ref h63, .ref h64, .ref h65, .int 0, .int 0, .int 0, .int 0, .int 0, .int 0, .int 0, .int 0, .int 0, .ref h66, .int 0, .ref h67, .int 0, .int 0, .int 0, .int 0, .int 0, .ref h68, .int 0, .int 0, .ref h69, .int 0, .ref h70, .int 0, .ref h71, .ref h72, .int 0, .ref h73, .ref h74, .ref h75, .ref h76, .long 0, .int 0, .ref h77, .ref h78, .ref h79, .ref h80, .ref h81, .ref h82, .ref h83, .ref h84, .ref h85, .ref h86, .ref h87, .ref h88, .ref h89, .ref h90, .ref h91, .int 0, .ref h92, .ref h93, .ref h94, .int 0])), (h48, .inl (k0, 4, .inl (fun _ => 0))), (h49, .inl (k1, 4, .inl (fun _ => 0))), (h50, .inl (k2, 400, .inl (upd (fun _ => 0) 300 (((w0 >>> ((48 : Int32).toInt64 &&& 63)) &&& 65535).toInt32))))] := hD_453
          clear hP_3 hD_3 hS_3
          refine lv_iinc (v := 1) (lv' := [(6, .int 1), (5, .int 0), (0, .ref h0), (1, .int 3), (2, .int 4), (3, .long w0)]) hx hb dX12_put__102 hl_446 (k := 0) rfl (by decide) (by decide) rfl (fun ls_454 hl_454 => ?_)
          clear hl_446
          refine lv_goto (tgt := 65) hx hb dX12_put__105 (by decide) ?_
          refine lv_iload hx hb dX12_put__65 (lv_at hl_454 0 rfl) ?_
          refine lv_iload_n hx hb dX12_put__67 rfl (lv_at hl_454 4 rfl) ?_
          refine lv_icmp_ge (tgt := 108) hx hb dX12_put__68 (by decide) (fun c_ => absurd c_ (by decide)) (fun _ => ?_)
          refine lv_aload_n hx hb dX12_put__71 rfl (lv_at hl_454 2 rfl) ?_
          refine va_get (D := (dC, dI)) (ci := 15) (v := .ref h50) (C := RX12) (T := TX12) (N := 143) hx hb ht inX12 hown hK_3 hP_453 0 rfl rfl 70 (by decide) (ht _ tw_2210) (fun _ h9 => h9) rfl dX12_put__72 ?_
          refine lv_bipush (v := 100) hx hb dX12_put__75 (by decide) ?_
          refine lv_iload_n hx hb dX12_put__77 rfl (lv_at hl_454 3 rfl) ?_
          refine lv_imul hx hb dX12_put__78 ?_
          refine lv_topi (fun x_455 ex_455 => ?_)
          obtain rfl : x_455 = 300 := ex_455.trans (by decide)
          refine lv_iload hx hb dX12_put__79 (lv_at hl_454 1 rfl) ?_
          refine lv_iadd hx hb dX12_put__81 ?_
          refine lv_topi (fun x_456 ex_456 => ?_)
          obtain rfl : x_456 = 300 := ex_456.trans (by decide)
          refine lv_iload hx hb dX12_put__82 (lv_at hl_454 0 rfl) ?_
          refine lv_iadd hx hb dX12_put__84 ?_
          refine lv_topi (fun x_457 ex_457 => ?_)
          obtain rfl : x_457 = 301 := ex_457.trans (by decide)
          refine lv_lload_n hx hb dX12_put__85 rfl (lv_at hl_454 5 rfl) ?_
          refine lv_bipush (v := 16) hx hb dX12_put__86 (by decide) ?_
          refine lv_iload_n hx hb dX12_put__88 rfl (lv_at hl_454 4 rfl) ?_
          refine lv_iconst (v := 1) hx hb dX12_put__89 (by decide) ?_
          refine lv_isub hx hb dX12_put__90 ?_
          refine lv_topi (fun x_458 ex_458 => ?_)
          obtain rfl : x_458 = 3 := ex_458.trans (by decide)
          refine lv_iload hx hb dX12_put__91 (lv_at hl_454 0 rfl) ?_
          refine lv_isub hx hb dX12_put__93 ?_
          refine lv_topi (fun x_459 ex_459 => ?_)
          obtain rfl : x_459 = 2 := ex_459.trans (by decide)
          refine lv_imul hx hb dX12_put__94 ?_
          refine lv_topi (fun x_460 ex_460 => ?_)
          obtain rfl : x_460 = 32 := ex_460.trans (by decide)
          refine lv_lshr (v := (w0 >>> ((32 : Int32).toInt64 &&& 63))) hx hb dX12_put__95 rfl ?_
          refine lv_ldc2 hx hb hown (ht _ tw_2813) dX12_put__96 ?_
          refine lv_land hx hb dX12_put__99 ?_
          refine lv_l2i (v := ((w0 >>> ((32 : Int32).toInt64 &&& 63)) &&& 65535).toInt32) hx hb dX12_put__100 rfl ?_
          refine va_iast hx hb hK_3 hP_453 hD_453 hS_453 3 2 rfl rfl (i := 301) (vpi (by decide)) dX12_put__101 (fun H_461 locs_461 hP_461 hD_461 hS_461 => ?_)
          have hP_461 : va_P (dC, dI) vwCl [(h0, .inr (15, [.int 0, .int 0, .ref h1, .int 0, .int (-1), .ref h2, .ref h3, .ref h4, .ref h5, .ref h6, .ref h7, .ref h8, .ref h9, .ref h10, .ref h11, .ref h12, .ref h13, .ref h14, .ref h15, .ref h16, .ref h17, .ref h18, .ref h19, .ref h20, .ref h21, .ref h22, .ref h23, .ref h24, .ref h25, .ref h26, .ref h27, .int 0, .ref h28, .ref h29, .int 0, .int 0, .int 0, .int 0, .int 0, .int 0, .ref h30, .int 0, .ref h31, .ref h32, .ref h33, .ref h34, .ref h35, .ref h36, .ref h37, .ref h38, .int 0, .int 0, .int 0, .int 0, .ref h39, .ref h40, .ref h41, .int 0, .ref h42, .int 0, .ref h43, .int 0, .int 0, .ref h44, .ref h45, .ref h46, .int 0, .ref h47, .ref h48, .ref h49, .ref h50, .ref h51, .ref h52, .ref h53, .int 0, .ref h54, .int 0, .ref h55, .ref h56, .ref h57, .int 0, .ref h58, .ref h59, .ref h60, .ref h61, .int 0, .ref h62, .ref h63, .ref h64, .ref h65, .int 0, .int 0, .int 0, .int 0, .int 0, .int 0, .int 0, .int 0, .int 0, .ref h66, .int 0, .ref h67, .int 0, .int 0, .int 0, .int 0, .int 0, .ref h68, .int 0, .int 0, .ref h69, .int 0, .ref h70, .int 0, .ref h71, .ref h72, .int 0, .ref h73, .ref h74, .ref h75, .ref h76, .long 0, .int 0, .ref h77, .ref h78, .ref h79, .ref h80, .ref h81, .ref h82, .ref h83, .ref h84, .ref h85, .ref h86, .ref h87, .ref h88, .ref h89, .ref h90, .ref h91, .int 0, .ref h92, .ref h93, .ref h94, .int 0])), (h48, .inl (k0, 4, .inl (fun _ => 0))), (h49, .inl (k1, 4, .inl (fun _ => 0))), (h50, .inl (k2, 400, .inl (upd (upd (fun _ => 0) 300 (((w0 >>> ((48 : Int32).toInt64 &&& 63)) &&& 65535).toInt32)) 301 (((w0 >>> ((32 : Int32).toInt64 &&& 63)) &&& 65535).toInt32))))] H_461 := hP_461
          have hD_461 : va_D A [(h0, .inr (15, [.int 0, .int 0, .ref h1, .int 0, .int (-1), .ref h2, .ref h3, .ref h4, .ref h5, .ref h6, .ref h7, .ref h8, .ref h9, .ref h10, .ref h11, .ref h12, .ref h13, .ref h14, .ref h15, .ref h16, .ref h17, .ref h18, .ref h19, .ref h20, .ref h21, .ref h22, .ref h23, .ref h24, .ref h25, .ref h26, .ref h27, .int 0, .ref h28, .ref h29, .int 0, .int 0, .int 0, .int 0, .int 0, .int 0, .ref h30, .int 0, .ref h31, .ref h32, .ref h33, .ref h34, .ref h35, .ref h36, .ref h37, .ref h38, .int 0, .int 0, .int 0, .int 0, .ref h39, .ref h40, .ref h41, .int 0, .ref h42, .int 0, .ref h43, .int 0, .int 0, .ref h44, .ref h45, .ref h46, .int 0, .ref h47, .ref h48, .ref h49, .ref h50, .ref h51, .ref h52, .ref h53, .int 0, .ref h54, .int 0, .ref h55, .ref h56, .ref h57, .int 0, .ref h58, .ref h59, .ref h60, .ref h61, .int 0, .ref h62, .ref h63, .ref h64, .ref h65, .int 0, .int 0, .int 0, .int 0, .int 0, .int 0, .int 0, .int 0, .int 0, .ref h66, .int 0, .ref h67, .int 0, .int 0, .int 0, .int 0, .int 0, .ref h68, .int 0, .int 0, .ref h69, .int 0, .ref h70, .int 0, .ref h71, .ref h72, .int 0, .ref h73, .ref h74, .ref h75, .ref h76, .long 0, .int 0, .ref h77, .ref h78, .ref h79, .ref h80, .ref h81, .ref h82, .ref h83, .ref h84, .ref h85, .ref h86, .ref h87, .ref h88, .ref h89, .ref h90, .ref h91, .int 0, .ref h92, .ref h93, .ref h94, .int 0])), (h48, .inl (k0, 4, .inl (fun _ => 0))), (h49, .inl (k1, 4, .inl (fun _ => 0))), (h50, .inl (k2, 400, .inl (upd (upd (fun _ => 0) 300 (((w0 >>> ((48 : Int32).toInt64 &&& 63)) &&& 65535).toInt32)) 301 (((w0 >>> ((32 : Int32).toInt64 &&& 63)) &&& 65535).toInt32))))] := hD_461
          clear hP_453 hD_453 hS_453
          refine lv_iinc (v := 2) (lv' := [(6, .int 2), (5, .int 0), (0, .ref h0), (1, .int 3), (2, .int 4), (3, .long w0)]) hx hb dX12_put__102 hl_454 (k := 0) rfl (by decide) (by decide) rfl (fun ls_462 hl_462 => ?_)
          clear hl_454
          refine lv_goto (tgt := 65) hx hb dX12_put__105 (by decide) ?_
          refine lv_iload hx hb dX12_put__65 (lv_at hl_462 0 rfl) ?_
          refine lv_iload_n hx hb dX12_put__67 rfl (lv_at hl_462 4 rfl) ?_
          refine lv_icmp_ge (tgt := 108) hx hb dX12_put__68 (by decide) (fun c_ => absurd c_ (by decide)) (fun _ => ?_)
          refine lv_aload_n hx hb dX12_put__71 rfl (lv_at hl_462 2 rfl) ?_
          refine va_get (D := (dC, dI)) (ci := 15) (v := .ref h50) (C := RX12) (T := TX12) (N := 143) hx hb ht inX12 hown hK_3 hP_461 0 rfl rfl 70 (by decide) (ht _ tw_2210) (fun _ h9 => h9) rfl dX12_put__72 ?_
          refine lv_bipush (v := 100) hx hb dX12_put__75 (by decide) ?_
          refine lv_iload_n hx hb dX12_put__77 rfl (lv_at hl_462 3 rfl) ?_
          refine lv_imul hx hb dX12_put__78 ?_
          refine lv_topi (fun x_463 ex_463 => ?_)
          obtain rfl : x_463 = 300 := ex_463.trans (by decide)
          refine lv_iload hx hb dX12_put__79 (lv_at hl_462 1 rfl) ?_
          refine lv_iadd hx hb dX12_put__81 ?_
          refine lv_topi (fun x_464 ex_464 => ?_)
          obtain rfl : x_464 = 300 := ex_464.trans (by decide)
          refine lv_iload hx hb dX12_put__82 (lv_at hl_462 0 rfl) ?_
          refine lv_iadd hx hb dX12_put__84 ?_
          refine lv_topi (fun x_465 ex_465 => ?_)
          obtain rfl : x_465 = 302 := ex_465.trans (by decide)
          refine lv_lload_n hx hb dX12_put__85 rfl (lv_at hl_462 5 rfl) ?_
          refine lv_bipush (v := 16) hx hb dX12_put__86 (by decide) ?_
          refine lv_iload_n hx hb dX12_put__88 rfl (lv_at hl_462 4 rfl) ?_
          refine lv_iconst (v := 1) hx hb dX12_put__89 (by decide) ?_
          refine lv_isub hx hb dX12_put__90 ?_
          refine lv_topi (fun x_466 ex_466 => ?_)
          obtain rfl : x_466 = 3 := ex_466.trans (by decide)
          refine lv_iload hx hb dX12_put__91 (lv_at hl_462 0 rfl) ?_
          refine lv_isub hx hb dX12_put__93 ?_
          refine lv_topi (fun x_467 ex_467 => ?_)
          obtain rfl : x_467 = 1 := ex_467.trans (by decide)
          refine lv_imul hx hb dX12_put__94 ?_
          refine lv_topi (fun x_468 ex_468 => ?_)
          obtain rfl : x_468 = 16 := ex_468.trans (by decide)
          refine lv_lshr (v := (w0 >>> ((16 : Int32).toInt64 &&& 63))) hx hb dX12_put__95 rfl ?_
          refine lv_ldc2 hx hb hown (ht _ tw_2813) dX12_put__96 ?_
          refine lv_land hx hb dX12_put__99 ?_
          refine lv_l2i (v := ((w0 >>> ((16 : Int32).toInt64 &&& 63)) &&& 65535).toInt32) hx hb dX12_put__100 rfl ?_
          refine va_iast hx hb hK_3 hP_461 hD_461 hS_461 3 2 rfl rfl (i := 302) (vpi (by decide)) dX12_put__101 (fun H_469 locs_469 hP_469 hD_469 hS_469 => ?_)
          have hP_469 : va_P (dC, dI) vwCl [(h0, .inr (15, [.int 0, .int 0, .ref h1, .int 0, .int (-1), .ref h2, .ref h3, .ref h4, .ref h5, .ref h6, .ref h7, .ref h8, .ref h9, .ref h10, .ref h11, .ref h12, .ref h13, .ref h14, .ref h15, .ref h16, .ref h17, .ref h18, .ref h19, .ref h20, .ref h21, .ref h22, .ref h23, .ref h24, .ref h25, .ref h26, .ref h27, .int 0, .ref h28, .ref h29, .int 0, .int 0, .int 0, .int 0, .int 0, .int 0, .ref h30, .int 0, .ref h31, .ref h32, .ref h33, .ref h34, .ref h35, .ref h36, .ref h37, .ref h38, .int 0, .int 0, .int 0, .int 0, .ref h39, .ref h40, .ref h41, .int 0, .ref h42, .int 0, .ref h43, .int 0, .int 0, .ref h44, .ref h45, .ref h46, .int 0, .ref h47, .ref h48, .ref h49, .ref h50, .ref h51, .ref h52, .ref h53, .int 0, .ref h54, .int 0, .ref h55, .ref h56, .ref h57, .int 0, .ref h58, .ref h59, .ref h60, .ref h61, .int 0, .ref h62, .ref h63, .ref h64, .ref h65, .int 0, .int 0, .int 0, .int 0, .int 0, .int 0, .int 0, .int 0, .int 0, .ref h66, .int 0, .ref h67, .int 0, .int 0, .int 0, .int 0, .int 0, .ref h68, .int 0, .int 0, .ref h69, .int 0, .ref h70, .int 0, .ref h71, .ref h72, .int 0, .ref h73, .ref h74, .ref h75, .ref h76, .long 0, .int 0, .ref h77, .ref h78, .ref h79, .ref h80, .ref h81, .ref h82, .ref h83, .ref h84, .ref h85, .ref h86, .ref h87, .ref h88, .ref h89, .ref h90, .ref h91, .int 0, .ref h92, .ref h93, .ref h94, .int 0])), (h48, .inl (k0, 4, .inl (fun _ => 0))), (h49, .inl (k1, 4, .inl (fun _ => 0))), (h50, .inl (k2, 400, .inl (upd (upd (upd (fun _ => 0) 300 (((w0 >>> ((48 : Int32).toInt64 &&& 63)) &&& 65535).toInt32)) 301 (((w0 >>> ((32 : Int32).toInt64 &&& 63)) &&& 65535).toInt32)) 302 (((w0 >>> ((16 : Int32).toInt64 &&& 63)) &&& 65535).toInt32))))] H_469 := hP_469
          have hD_469 : va_D A [(h0, .inr (15, [.int 0, .int 0, .ref h1, .int 0, .int (-1), .ref h2, .ref h3, .ref h4, .ref h5, .ref h6, .ref h7, .ref h8, .ref h9, .ref h10, .ref h11, .ref h12, .ref h13, .ref h14, .ref h15, .ref h16, .ref h17, .ref h18, .ref h19, .ref h20, .ref h21, .ref h22, .ref h23, .ref h24, .ref h25, .ref h26, .ref h27, .int 0, .ref h28, .ref h29, .int 0, .int 0, .int 0, .int 0, .int 0, .int 0, .ref h30, .int 0, .ref h31, .ref h32, .ref h33, .ref h34, .ref h35, .ref h36, .ref h37, .ref h38, .int 0, .int 0, .int 0, .int 0, .ref h39, .ref h40, .ref h41, .int 0, .ref h42, .int 0, .ref h43, .int 0, .int 0, .ref h44, .ref h45, .ref h46, .int 0, .ref h47, .ref h48, .ref h49, .ref h50, .ref h51, .ref h52, .ref h53, .int 0, .ref h54, .int 0, .ref h55, .ref h56, .ref h57, .int 0, .ref h58, .ref h59, .ref h60, .ref h61, .int 0, .ref h62, .ref h63, .ref h64, .ref h65, .int 0, .int 0, .int 0, .int 0, .int 0, .int 0, .int 0, .int 0, .int 0, .ref h66, .int 0, .ref h67, .int 0, .int 0, .int 0, .int 0, .int 0, .ref h68, .int 0, .int 0, .ref h69, .int 0, .ref h70, .int 0, .ref h71, .ref h72, .int 0, .ref h73, .ref h74, .ref h75, .ref h76, .long 0, .int 0, .ref h77, .ref h78, .ref h79, .ref h80, .ref h81, .ref h82, .ref h83, .ref h84, .ref h85, .ref h86, .ref h87, .ref h88, .ref h89, .ref h90, .ref h91, .int 0, .ref h92, .ref h93, .ref h94, .int 0])), (h48, .inl (k0, 4, .inl (fun _ => 0))), (h49, .inl (k1, 4, .inl (fun _ => 0))), (h50, .inl (k2, 400, .inl (upd (upd (upd (fun _ => 0) 300 (((w0 >>> ((48 : Int32).toInt64 &&& 63)) &&& 65535).toInt32)) 301 (((w0 >>> ((32 : Int32).toInt64 &&& 63)) &&& 65535).toInt32)) 302 (((w0 >>> ((16 : Int32).toInt64 &&& 63)) &&& 65535).toInt32))))] := hD_469
          clear hP_461 hD_461 hS_461
          refine lv_iinc (v := 3) (lv' := [(6, .int 3), (5, .int 0), (0, .ref h0), (1, .int 3), (2, .int 4), (3, .long w0)]) hx hb dX12_put__102 hl_462 (k := 0) rfl (by decide) (by decide) rfl (fun ls_470 hl_470 => ?_)
          clear hl_462
          refine lv_goto (tgt := 65) hx hb dX12_put__105 (by decide) ?_
          refine lv_iload hx hb dX12_put__65 (lv_at hl_470 0 rfl) ?_
          refine lv_iload_n hx hb dX12_put__67 rfl (lv_at hl_470 4 rfl) ?_
          refine lv_icmp_ge (tgt := 108) hx hb dX12_put__68 (by decide) (fun c_ => absurd c_ (by decide)) (fun _ => ?_)
          refine lv_aload_n hx hb dX12_put__71 rfl (lv_at hl_470 2 rfl) ?_
          refine va_get (D := (dC, dI)) (ci := 15) (v := .ref h50) (C := RX12) (T := TX12) (N := 143) hx hb ht inX12 hown hK_3 hP_469 0 rfl rfl 70 (by decide) (ht _ tw_2210) (fun _ h9 => h9) rfl dX12_put__72 ?_
          refine lv_bipush (v := 100) hx hb dX12_put__75 (by decide) ?_
          refine lv_iload_n hx hb dX12_put__77 rfl (lv_at hl_470 3 rfl) ?_
          refine lv_imul hx hb dX12_put__78 ?_
          refine lv_topi (fun x_471 ex_471 => ?_)
          obtain rfl : x_471 = 300 := ex_471.trans (by decide)
          refine lv_iload hx hb dX12_put__79 (lv_at hl_470 1 rfl) ?_
          refine lv_iadd hx hb dX12_put__81 ?_
          refine lv_topi (fun x_472 ex_472 => ?_)
          obtain rfl : x_472 = 300 := ex_472.trans (by decide)
          refine lv_iload hx hb dX12_put__82 (lv_at hl_470 0 rfl) ?_
          refine lv_iadd hx hb dX12_put__84 ?_
          refine lv_topi (fun x_473 ex_473 => ?_)
          obtain rfl : x_473 = 303 := ex_473.trans (by decide)
          refine lv_lload_n hx hb dX12_put__85 rfl (lv_at hl_470 5 rfl) ?_
          refine lv_bipush (v := 16) hx hb dX12_put__86 (by decide) ?_
          refine lv_iload_n hx hb dX12_put__88 rfl (lv_at hl_470 4 rfl) ?_
          refine lv_iconst (v := 1) hx hb dX12_put__89 (by decide) ?_
          refine lv_isub hx hb dX12_put__90 ?_
          refine lv_topi (fun x_474 ex_474 => ?_)
          obtain rfl : x_474 = 3 := ex_474.trans (by decide)
          refine lv_iload hx hb dX12_put__91 (lv_at hl_470 0 rfl) ?_
          refine lv_isub hx hb dX12_put__93 ?_
          refine lv_topi (fun x_475 ex_475 => ?_)
          obtain rfl : x_475 = 0 := ex_475.trans (by decide)
          refine lv_imul hx hb dX12_put__94 ?_
          refine lv_topi (fun x_476 ex_476 => ?_)
          obtain rfl : x_476 = 0 := ex_476.trans (by decide)
          refine lv_lshr (v := (w0 >>> ((0 : Int32).toInt64 &&& 63))) hx hb dX12_put__95 rfl ?_
          refine lv_ldc2 hx hb hown (ht _ tw_2813) dX12_put__96 ?_
          refine lv_land hx hb dX12_put__99 ?_
          refine lv_l2i (v := ((w0 >>> ((0 : Int32).toInt64 &&& 63)) &&& 65535).toInt32) hx hb dX12_put__100 rfl ?_
          refine va_iast hx hb hK_3 hP_469 hD_469 hS_469 3 2 rfl rfl (i := 303) (vpi (by decide)) dX12_put__101 (fun H_477 locs_477 hP_477 hD_477 hS_477 => ?_)
          have hP_477 : va_P (dC, dI) vwCl [(h0, .inr (15, [.int 0, .int 0, .ref h1, .int 0, .int (-1), .ref h2, .ref h3, .ref h4, .ref h5, .ref h6, .ref h7, .ref h8, .ref h9, .ref h10, .ref h11, .ref h12, .ref h13, .ref h14, .ref h15, .ref h16, .ref h17, .ref h18, .ref h19, .ref h20, .ref h21, .ref h22, .ref h23, .ref h24, .ref h25, .ref h26, .ref h27, .int 0, .ref h28, .ref h29, .int 0, .int 0, .int 0, .int 0, .int 0, .int 0, .ref h30, .int 0, .ref h31, .ref h32, .ref h33, .ref h34, .ref h35, .ref h36, .ref h37, .ref h38, .int 0, .int 0, .int 0, .int 0, .ref h39, .ref h40, .ref h41, .int 0, .ref h42, .int 0, .ref h43, .int 0, .int 0, .ref h44, .ref h45, .ref h46, .int 0, .ref h47, .ref h48, .ref h49, .ref h50, .ref h51, .ref h52, .ref h53, .int 0, .ref h54, .int 0, .ref h55, .ref h56, .ref h57, .int 0, .ref h58, .ref h59, .ref h60, .ref h61, .int 0, .ref h62, .ref h63, .ref h64, .ref h65, .int 0, .int 0, .int 0, .int 0, .int 0, .int 0, .int 0, .int 0, .int 0, .ref h66, .int 0, .ref h67, .int 0, .int 0, .int 0, .int 0, .int 0, .ref h68, .int 0, .int 0, .ref h69, .int 0, .ref h70, .int 0, .ref h71, .ref h72, .int 0, .ref h73, .ref h74, .ref h75, .ref h76, .long 0, .int 0, .ref h77, .ref h78, .ref h79, .ref h80, .ref h81, .ref h82, .ref h83, .ref h84, .ref h85, .ref h86, .ref h87, .ref h88, .ref h89, .ref h90, .ref h91, .int 0, .ref h92, .ref h93, .ref h94, .int 0])), (h48, .inl (k0, 4, .inl (fun _ => 0))), (h49, .inl (k1, 4, .inl (fun _ => 0))), (h50, .inl (k2, 400, .inl (upd (upd (upd (upd (fun _ => 0) 300 (((w0 >>> ((48 : Int32).toInt64 &&& 63)) &&& 65535).toInt32)) 301 (((w0 >>> ((32 : Int32).toInt64 &&& 63)) &&& 65535).toInt32)) 302 (((w0 >>> ((16 : Int32).toInt64 &&& 63)) &&& 65535).toInt32)) 303 (((w0 >>> ((0 : Int32).toInt64 &&& 63)) &&& 65535).toInt32))))] H_477 := hP_477
          have hD_477 : va_D A [(h0, .inr (15, [.int 0, .int 0, .ref h1, .int 0, .int (-1), .ref h2, .ref h3, .ref h4, .ref h5, .ref h6, .ref h7, .ref h8, .ref h9, .ref h10, .ref h11, .ref h12, .ref h13, .ref h14, .ref h15, .ref h16, .ref h17, .ref h18, .ref h19, .ref h20, .ref h21, .ref h22, .ref h23, .ref h24, .ref h25, .ref h26, .ref h27, .int 0, .ref h28, .ref h29, .int 0, .int 0, .int 0, .int 0, .int 0, .int 0, .ref h30, .int 0, .ref h31, .ref h32, .ref h33, .ref h34, .ref h35, .ref h36, .ref h37, .ref h38, .int 0, .int 0, .int 0, .int 0, .ref h39, .ref h40, .ref h41, .int 0, .ref h42, .int 0, .ref h43, .int 0, .int 0, .ref h44, .ref h45, .ref h46, .int 0, .ref h47, .ref h48, .ref h49, .ref h50, .ref h51, .ref h52, .ref h53, .int 0, .ref h54, .int 0, .ref h55, .ref h56, .ref h57, .int 0, .ref h58, .ref h59, .ref h60, .ref h61, .int 0, .ref h62, .ref h63, .ref h64, .ref h65, .int 0, .int 0, .int 0, .int 0, .int 0, .int 0, .int 0, .int 0, .int 0, .ref h66, .int 0, .ref h67, .int 0, .int 0, .int 0, .int 0, .int 0, .ref h68, .int 0, .int 0, .ref h69, .int 0, .ref h70, .int 0, .ref h71, .ref h72, .int 0, .ref h73, .ref h74, .ref h75, .ref h76, .long 0, .int 0, .ref h77, .ref h78, .ref h79, .ref h80, .ref h81, .ref h82, .ref h83, .ref h84, .ref h85, .ref h86, .ref h87, .ref h88, .ref h89, .ref h90, .ref h91, .int 0, .ref h92, .ref h93, .ref h94, .int 0])), (h48, .inl (k0, 4, .inl (fun _ => 0))), (h49, .inl (k1, 4, .inl (fun _ => 0))), (h50, .inl (k2, 400, .inl (upd (upd (upd (upd (fun _ => 0) 300 (((w0 >>> ((48 : Int32).toInt64 &&& 63)) &&& 65535).toInt32)) 301 (((w0 >>> ((32 : Int32).toInt64 &&& 63)) &&& 65535).toInt32)) 302 (((w0 >>> ((16 : Int32).toInt64 &&& 63)) &&& 65535).toInt32)) 303 (((w0 >>> ((0 : Int32).toInt64 &&& 63)) &&& 65535).toInt32))))] := hD_477
          clear hP_469 hD_469 hS_469
          refine lv_iinc (v := 4) (lv' := [(6, .int 4), (5, .int 0), (0, .ref h0), (1, .int 3), (2, .int 4), (3, .long w0)]) hx hb dX12_put__102 hl_470 (k := 0) rfl (by decide) (by decide) rfl (fun ls_478 hl_478 => ?_)
          clear hl_470
          refine lv_goto (tgt := 65) hx hb dX12_put__105 (by decide) ?_
          refine lv_iload hx hb dX12_put__65 (lv_at hl_478 0 rfl) ?_
          refine lv_iload_n hx hb dX12_put__67 rfl (lv_at hl_478 4 rfl) ?_
          refine lv_icmp_ge (tgt := 108) hx hb dX12_put__68 (by decide) (fun _ => ?_) (fun c_ => absurd (by decide) c_)
          refine lv_aload_n hx hb dX12_put__108 rfl (lv_at hl_478 2 rfl) ?_
          refine va_get (D := (dC, dI)) (ci := 15) (v := .ref h48) (C := RX12) (T := TX12) (N := 143) hx hb ht inX12 hown hK_3 hP_477 0 rfl rfl 68 (by decide) (ht _ tw_2208) (fun _ h9 => h9) rfl dX12_put__109 ?_
          refine lv_iload_n hx hb dX12_put__112 rfl (lv_at hl_478 3 rfl) ?_
          refine lv_iconst (v := 1) hx hb dX12_put__113 (by decide) ?_
          refine va_zast hx hb hK_3 hP_477 hD_477 hS_477 1 0 rfl rfl (i := 3) (vpi (by decide)) dX12_put__114 (fun H_479 locs_479 hP_479 hD_479 hS_479 => ?_)
          have hP_479 : va_P (dC, dI) vwCl [(h0, .inr (15, [.int 0, .int 0, .ref h1, .int 0, .int (-1), .ref h2, .ref h3, .ref h4, .ref h5, .ref h6, .ref h7, .ref h8, .ref h9, .ref h10, .ref h11, .ref h12, .ref h13, .ref h14, .ref h15, .ref h16, .ref h17, .ref h18, .ref h19, .ref h20, .ref h21, .ref h22, .ref h23, .ref h24, .ref h25, .ref h26, .ref h27, .int 0, .ref h28, .ref h29, .int 0, .int 0, .int 0, .int 0, .int 0, .int 0, .ref h30, .int 0, .ref h31, .ref h32, .ref h33, .ref h34, .ref h35, .ref h36, .ref h37, .ref h38, .int 0, .int 0, .int 0, .int 0, .ref h39, .ref h40, .ref h41, .int 0, .ref h42, .int 0, .ref h43, .int 0, .int 0, .ref h44, .ref h45, .ref h46, .int 0, .ref h47, .ref h48, .ref h49, .ref h50, .ref h51, .ref h52, .ref h53, .int 0, .ref h54, .int 0, .ref h55, .ref h56, .ref h57, .int 0, .ref h58, .ref h59, .ref h60, .ref h61, .int 0, .ref h62, .ref h63, .ref h64, .ref h65, .int 0, .int 0, .int 0, .int 0, .int 0, .int 0, .int 0, .int 0, .int 0, .ref h66, .int 0, .ref h67, .int 0, .int 0, .int 0, .int 0, .int 0, .ref h68, .int 0, .int 0, .ref h69, .int 0, .ref h70, .int 0, .ref h71, .ref h72, .int 0, .ref h73, .ref h74, .ref h75, .ref h76, .long 0, .int 0, .ref h77, .ref h78, .ref h79, .ref h80, .ref h81, .ref h82, .ref h83, .ref h84, .ref h85, .ref h86, .ref h87, .ref h88, .ref h89, .ref h90, .ref h91, .int 0, .ref h92, .ref h93, .ref h94, .int 0])), (h48, .inl (k0, 4, .inl (upd (fun _ => 0) 3 1))), (h49, .inl (k1, 4, .inl (fun _ => 0))), (h50, .inl (k2, 400, .inl (upd (upd (upd (upd (fun _ => 0) 300 (((w0 >>> ((48 : Int32).toInt64 &&& 63)) &&& 65535).toInt32)) 301 (((w0 >>> ((32 : Int32).toInt64 &&& 63)) &&& 65535).toInt32)) 302 (((w0 >>> ((16 : Int32).toInt64 &&& 63)) &&& 65535).toInt32)) 303 (((w0 >>> ((0 : Int32).toInt64 &&& 63)) &&& 65535).toInt32))))] H_479 := hP_479
          have hD_479 : va_D A [(h0, .inr (15, [.int 0, .int 0, .ref h1, .int 0, .int (-1), .ref h2, .ref h3, .ref h4, .ref h5, .ref h6, .ref h7, .ref h8, .ref h9, .ref h10, .ref h11, .ref h12, .ref h13, .ref h14, .ref h15, .ref h16, .ref h17, .ref h18, .ref h19, .ref h20, .ref h21, .ref h22, .ref h23, .ref h24, .ref h25, .ref h26, .ref h27, .int 0, .ref h28, .ref h29, .int 0, .int 0, .int 0, .int 0, .int 0, .int 0, .ref h30, .int 0, .ref h31, .ref h32, .ref h33, .ref h34, .ref h35, .ref h36, .ref h37, .ref h38, .int 0, .int 0, .int 0, .int 0, .ref h39, .ref h40, .ref h41, .int 0, .ref h42, .int 0, .ref h43, .int 0, .int 0, .ref h44, .ref h45, .ref h46, .int 0, .ref h47, .ref h48, .ref h49, .ref h50, .ref h51, .ref h52, .ref h53, .int 0, .ref h54, .int 0, .ref h55, .ref h56, .ref h57, .int 0, .ref h58, .ref h59, .ref h60, .ref h61, .int 0, .ref h62, .ref h63, .ref h64, .ref h65, .int 0, .int 0, .int 0, .int 0, .int 0, .int 0, .int 0, .int 0, .int 0, .ref h66, .int 0, .ref h67, .int 0, .int 0, .int 0, .int 0, .int 0, .ref h68, .int 0, .int 0, .ref h69, .int 0, .ref h70, .int 0, .ref h71, .ref h72, .int 0, .ref h73, .ref h74, .ref h75, .ref h76, .long 0, .int 0, .ref h77, .ref h78, .ref h79, .ref h80, .ref h81, .ref h82, .ref h83, .ref h84, .ref h85, .ref h86, .ref h87, .ref h88, .ref h89, .ref h90, .ref h91, .int 0, .ref h92, .ref h93, .ref h94, .int 0])), (h48, .inl (k0, 4, .inl (upd (fun _ => 0) 3 1))), (h49, .inl (k1, 4, .inl (fun _ => 0))), (h50, .inl (k2, 400, .inl (upd (upd (upd (upd (fun _ => 0) 300 (((w0 >>> ((48 : Int32).toInt64 &&& 63)) &&& 65535).toInt32)) 301 (((w0 >>> ((32 : Int32).toInt64 &&& 63)) &&& 65535).toInt32)) 302 (((w0 >>> ((16 : Int32).toInt64 &&& 63)) &&& 65535).toInt32)) 303 (((w0 >>> ((0 : Int32).toInt64 &&& 63)) &&& 65535).toInt32))))] := hD_479
          clear hP_477 hD_477 hS_477
          refine lv_aload_n hx hb dX12_put__115 rfl (lv_at hl_478 2 rfl) ?_
          refine va_get (D := (dC, dI)) (ci := 15) (v := .ref h49) (C := RX12) (T := TX12) (N := 143) hx hb ht inX12 hown hK_3 hP_479 0 rfl rfl 69 (by decide) (ht _ tw_2209) (fun _ h9 => h9) rfl dX12_put__116 ?_
          refine lv_iload_n hx hb dX12_put__119 rfl (lv_at hl_478 3 rfl) ?_
          refine lv_iload hx hb dX12_put__120 (lv_at hl_478 1 rfl) ?_
          refine lv_iload_n hx hb dX12_put__122 rfl (lv_at hl_478 4 rfl) ?_
          refine lv_iadd hx hb dX12_put__123 ?_
          refine lv_topi (fun x_480 ex_480 => ?_)
          obtain rfl : x_480 = 4 := ex_480.trans (by decide)
          refine va_iast hx hb hK_3 hP_479 hD_479 hS_479 2 1 rfl rfl (i := 3) (vpi (by decide)) dX12_put__124 (fun H_481 locs_481 hP_481 hD_481 hS_481 => ?_)
          have hP_481 : va_P (dC, dI) vwCl [(h0, .inr (15, [.int 0, .int 0, .ref h1, .int 0, .int (-1), .ref h2, .ref h3, .ref h4, .ref h5, .ref h6, .ref h7, .ref h8, .ref h9, .ref h10, .ref h11, .ref h12, .ref h13, .ref h14, .ref h15, .ref h16, .ref h17, .ref h18, .ref h19, .ref h20, .ref h21, .ref h22, .ref h23, .ref h24, .ref h25, .ref h26, .ref h27, .int 0, .ref h28, .ref h29, .int 0, .int 0, .int 0, .int 0, .int 0, .int 0, .ref h30, .int 0, .ref h31, .ref h32, .ref h33, .ref h34, .ref h35, .ref h36, .ref h37, .ref h38, .int 0, .int 0, .int 0, .int 0, .ref h39, .ref h40, .ref h41, .int 0, .ref h42, .int 0, .ref h43, .int 0, .int 0, .ref h44, .ref h45, .ref h46, .int 0, .ref h47, .ref h48, .ref h49, .ref h50, .ref h51, .ref h52, .ref h53, .int 0, .ref h54, .int 0, .ref h55, .ref h56, .ref h57, .int 0, .ref h58, .ref h59, .ref h60, .ref h61, .int 0, .ref h62, .ref h63, .ref h64, .ref h65, .int 0, .int 0, .int 0, .int 0, .int 0, .int 0, .int 0, .int 0, .int 0, .ref h66, .int 0, .ref h67, .int 0, .int 0, .int 0, .int 0, .int 0, .ref h68, .int 0, .int 0, .ref h69, .int 0, .ref h70, .int 0, .ref h71, .ref h72, .int 0, .ref h73, .ref h74, .ref h75, .ref h76, .long 0, .int 0, .ref h77, .ref h78, .ref h79, .ref h80, .ref h81, .ref h82, .ref h83, .ref h84, .ref h85, .ref h86, .ref h87, .ref h88, .ref h89, .ref h90, .ref h91, .int 0, .ref h92, .ref h93, .ref h94, .int 0])), (h48, .inl (k0, 4, .inl (upd (fun _ => 0) 3 1))), (h49, .inl (k1, 4, .inl (upd (fun _ => 0) 3 4))), (h50, .inl (k2, 400, .inl (upd (upd (upd (upd (fun _ => 0) 300 (((w0 >>> ((48 : Int32).toInt64 &&& 63)) &&& 65535).toInt32)) 301 (((w0 >>> ((32 : Int32).toInt64 &&& 63)) &&& 65535).toInt32)) 302 (((w0 >>> ((16 : Int32).toInt64 &&& 63)) &&& 65535).toInt32)) 303 (((w0 >>> ((0 : Int32).toInt64 &&& 63)) &&& 65535).toInt32))))] H_481 := hP_481
          have hD_481 : va_D A [(h0, .inr (15, [.int 0, .int 0, .ref h1, .int 0, .int (-1), .ref h2, .ref h3, .ref h4, .ref h5, .ref h6, .ref h7, .ref h8, .ref h9, .ref h10, .ref h11, .ref h12, .ref h13, .ref h14, .ref h15, .ref h16, .ref h17, .ref h18, .ref h19, .ref h20, .ref h21, .ref h22, .ref h23, .ref h24, .ref h25, .ref h26, .ref h27, .int 0, .ref h28, .ref h29, .int 0, .int 0, .int 0, .int 0, .int 0, .int 0, .ref h30, .int 0, .ref h31, .ref h32, .ref h33, .ref h34, .ref h35, .ref h36, .ref h37, .ref h38, .int 0, .int 0, .int 0, .int 0, .ref h39, .ref h40, .ref h41, .int 0, .ref h42, .int 0, .ref h43, .int 0, .int 0, .ref h44, .ref h45, .ref h46, .int 0, .ref h47, .ref h48, .ref h49, .ref h50, .ref h51, .ref h52, .ref h53, .int 0, .ref h54, .int 0, .ref h55, .ref h56, .ref h57, .int 0, .ref h58, .ref h59, .ref h60, .ref h61, .int 0, .ref h62, .ref h63, .ref h64, .ref h65, .int 0, .int 0, .int 0, .int 0, .int 0, .int 0, .int 0, .int 0, .int 0, .ref h66, .int 0, .ref h67, .int 0, .int 0, .int 0, .int 0, .int 0, .ref h68, .int 0, .int 0, .ref h69, .int 0, .ref h70, .int 0, .ref h71, .ref h72, .int 0, .ref h73, .ref h74, .ref h75, .ref h76, .long 0, .int 0, .ref h77, .ref h78, .ref h79, .ref h80, .ref h81, .ref h82, .ref h83, .ref h84, .ref h85, .ref h86, .ref h87, .ref h88, .ref h89, .ref h90, .ref h91, .int 0, .ref h92, .ref h93, .ref h94, .int 0])), (h48, .inl (k0, 4, .inl (upd (fun _ => 0) 3 1))), (h49, .inl (k1, 4, .inl (upd (fun _ => 0) 3 4))), (h50, .inl (k2, 400, .inl (upd (upd (upd (upd (fun _ => 0) 300 (((w0 >>> ((48 : Int32).toInt64 &&& 63)) &&& 65535).toInt32)) 301 (((w0 >>> ((32 : Int32).toInt64 &&& 63)) &&& 65535).toInt32)) 302 (((w0 >>> ((16 : Int32).toInt64 &&& 63)) &&& 65535).toInt32)) 303 (((w0 >>> ((0 : Int32).toInt64 &&& 63)) &&& 65535).toInt32))))] := hD_481
          clear hP_479 hD_479 hS_479
          refine lv_aload_n hx hb dX12_put__125 rfl (lv_at hl_478 2 rfl) ?_
          refine lv_aload_n hx hb dX12_put__126 rfl (lv_at hl_478 2 rfl) ?_
          refine va_get (D := (dC, dI)) (ci := 15) (v := .int 0) (C := RX12) (T := TX12) (N := 143) hx hb ht inX12 hown hK_3 hP_481 0 rfl rfl 102 (by decide) (ht _ tw_2242) (fun _ h9 => h9) rfl dX12_put__127 ?_
          refine lv_if_eq (tgt := 145) hx hb dX12_put__130 (by decide) (fun _ => ?_) (fun c_ => absurd (by decide) c_)
          refine lv_iconst (v := 0) hx hb dX12_put__145 (by decide) ?_
          refine va_put (D := (dC, dI)) (ci := 15) (v := .int 0) (ty := .boolean) (C := RX12) (T := TX12) (N := 143) hx hb ht inX12 tyX12 tyX12_ok nmX12 hown hK_3 hP_481 hD_481 hS_481 0 rfl rfl 102 (by decide) (ht _ tw_2242) (fun _ h9 => h9) rfl (by decide +kernel) rfl rfl (Nat.le_of_ble_eq_true rfl) dX12_put__146 (fun H_482 locs_482 hP_482 hD_482 hS_482 => ?_)
          have hP_482 : va_P (dC, dI) vwCl [(h0, .inr (15, [.int 0, .int 0, .ref h1, .int 0, .int (-1), .ref h2, .ref h3, .ref h4, .ref h5, .ref h6, .ref h7, .ref h8, .ref h9, .ref h10, .ref h11, .ref h12, .ref h13, .ref h14, .ref h15, .ref h16, .ref h17, .ref h18, .ref h19, .ref h20, .ref h21, .ref h22, .ref h23, .ref h24, .ref h25, .ref h26, .ref h27, .int 0, .ref h28, .ref h29, .int 0, .int 0, .int 0, .int 0, .int 0, .int 0, .ref h30, .int 0, .ref h31, .ref h32, .ref h33, .ref h34, .ref h35, .ref h36, .ref h37, .ref h38, .int 0, .int 0, .int 0, .int 0, .ref h39, .ref h40, .ref h41, .int 0, .ref h42, .int 0, .ref h43, .int 0, .int 0, .ref h44, .ref h45, .ref h46, .int 0, .ref h47, .ref h48, .ref h49, .ref h50, .ref h51, .ref h52, .ref h53, .int 0, .ref h54, .int 0, .ref h55, .ref h56, .ref h57, .int 0, .ref h58, .ref h59, .ref h60, .ref h61, .int 0, .ref h62, .ref h63, .ref h64, .ref h65, .int 0, .int 0, .int 0, .int 0, .int 0, .int 0, .int 0, .int 0, .int 0, .ref h66, .int 0, .ref h67, .int 0, .int 0, .int 0, .int 0, .int 0, .ref h68, .int 0, .int 0, .ref h69, .int 0, .ref h70, .int 0, .ref h71, .ref h72, .int 0, .ref h73, .ref h74, .ref h75, .ref h76, .long 0, .int 0, .ref h77, .ref h78, .ref h79, .ref h80, .ref h81, .ref h82, .ref h83, .ref h84, .ref h85, .ref h86, .ref h87, .ref h88, .ref h89, .ref h90, .ref h91, .int 0, .ref h92, .ref h93, .ref h94, .int 0])), (h48, .inl (k0, 4, .inl (upd (fun _ => 0) 3 1))), (h49, .inl (k1, 4, .inl (upd (fun _ => 0) 3 4))), (h50, .inl (k2, 400, .inl (upd (upd (upd (upd (fun _ => 0) 300 (((w0 >>> ((48 : Int32).toInt64 &&& 63)) &&& 65535).toInt32)) 301 (((w0 >>> ((32 : Int32).toInt64 &&& 63)) &&& 65535).toInt32)) 302 (((w0 >>> ((16 : Int32).toInt64 &&& 63)) &&& 65535).toInt32)) 303 (((w0 >>> ((0 : Int32).toInt64 &&& 63)) &&& 65535).toInt32))))] H_482 := hP_482
          have hD_482 : va_D A [(h0, .inr (15, [.int 0, .int 0, .ref h1, .int 0, .int (-1), .ref h2, .ref h3, .ref h4, .ref h5, .ref h6, .ref h7, .ref h8, .ref h9, .ref h10, .ref h11, .ref h12, .ref h13, .ref h14, .ref h15, .ref h16, .ref h17, .ref h18, .ref h19, .ref h20, .ref h21, .ref h22, .ref h23, .ref h24, .ref h25, .ref h26, .ref h27, .int 0, .ref h28, .ref h29, .int 0, .int 0, .int 0, .int 0, .int 0, .int 0, .ref h30, .int 0, .ref h31, .ref h32, .ref h33, .ref h34, .ref h35, .ref h36, .ref h37, .ref h38, .int 0, .int 0, .int 0, .int 0, .ref h39, .ref h40, .ref h41, .int 0, .ref h42, .int 0, .ref h43, .int 0, .int 0, .ref h44, .ref h45, .ref h46, .int 0, .ref h47, .ref h48, .ref h49, .ref h50, .ref h51, .ref h52, .ref h53, .int 0, .ref h54, .int 0, .ref h55, .ref h56, .ref h57, .int 0, .ref h58, .ref h59, .ref h60, .ref h61, .int 0, .ref h62, .ref h63, .ref h64, .ref h65, .int 0, .int 0, .int 0, .int 0, .int 0, .int 0, .int 0, .int 0, .int 0, .ref h66, .int 0, .ref h67, .int 0, .int 0, .int 0, .int 0, .int 0, .ref h68, .int 0, .int 0, .ref h69, .int 0, .ref h70, .int 0, .ref h71, .ref h72, .int 0, .ref h73, .ref h74, .ref h75, .ref h76, .long 0, .int 0, .ref h77, .ref h78, .ref h79, .ref h80, .ref h81, .ref h82, .ref h83, .ref h84, .ref h85, .ref h86, .ref h87, .ref h88, .ref h89, .ref h90, .ref h91, .int 0, .ref h92, .ref h93, .ref h94, .int 0])), (h48, .inl (k0, 4, .inl (upd (fun _ => 0) 3 1))), (h49, .inl (k1, 4, .inl (upd (fun _ => 0) 3 4))), (h50, .inl (k2, 400, .inl (upd (upd (upd (upd (fun _ => 0) 300 (((w0 >>> ((48 : Int32).toInt64 &&& 63)) &&& 65535).toInt32)) 301 (((w0 >>> ((32 : Int32).toInt64 &&& 63)) &&& 65535).toInt32)) 302 (((w0 >>> ((16 : Int32).toInt64 &&& 63)) &&& 65535).toInt32)) 303 (((w0 >>> ((0 : Int32).toInt64 &&& 63)) &&& 65535).toInt32))))] := hD_482
          clear hP_481 hD_481 hS_481
          refine lv_iload hx hb dX12_put__149 (lv_at hl_478 1 rfl) ?_
          refine lv_iload_n hx hb dX12_put__151 rfl (lv_at hl_478 4 rfl) ?_
          refine lv_iadd hx hb dX12_put__152 ?_
          refine lv_topi (fun x_483 ex_483 => ?_)
          obtain rfl : x_483 = 4 := ex_483.trans (by decide)
          have hP9 := hP_482.sub (ws' := []) [] rfl
          have hD9 := hD_482.sub (ws' := []) [] (by decide) rfl
          have hK9 := hK_3.sub (tys' := []) [] rfl
          refine W.widen (k := 0) (n := 0) (by decide) (by decide) ?_
          exact W.iret (v := 4) hx hb hr (fun t9 ht9 hW9 => ⟨⟨4, 4, rfl, (Or.inr (Or.inr (Or.inr (Or.inr ⟨rfl, rfl, cc_2_0, cc_2_1, cc_3_0, cc_3_1⟩)))), ⟨by rw [ht9]; exact hP9, va_K.moved hW9.alike hK9, hD9⟩⟩, hS_482.F ht9⟩) hS_482.2.2 dX12_put__153
