def w_X9_numberPositions_68 (Q : Int32 → (Nat → Int32) → (Nat → Int32) → Prop) (K7 : Int32 → Int32 → (Nat → Int32) → (Nat → Int32) → Prop) (l1_68 : Int32) (v_positionCount_68 : Int32) (v_positionOf_68 : Nat → Int32) (v_pcOf_68 : Nat → Int32) : Prop :=
  ∀ x_6 : Int32, x_6 = l1_68 + 1 → K7 x_6 v_positionCount_68 v_positionOf_68 v_pcOf_68
def w_X9_numberPositions_7B (v_program_count : Int32) (v_program_kinds : Nat → Int32) (Q : Int32 → (Nat → Int32) → (Nat → Int32) → Prop) (K7 : Int32 → Int32 → (Nat → Int32) → (Nat → Int32) → Prop) (l1_7 : Int32) (v_positionCount_7 : Int32) (v_positionOf_7 : Nat → Int32) (v_pcOf_7 : Nat → Int32) : Prop :=
  w_X5_has l1_7 v_program_count (fun r_3 => ((r_3 = 0) → Q  v_positionCount_7 v_positionOf_7 v_pcOf_7) ∧ ((¬ r_3 = 0) → w_X5_kindOf l1_7 v_program_count v_program_kinds (fun r_5 => ((¬ r_5 = 0) → w_X9_numberPositions_68 Q K7 l1_7 v_positionCount_7 v_positionOf_7 v_pcOf_7) ∧ ((r_5 = 0) → ((60 ≤ v_positionCount_7) → w_X9_numberPositions_68 Q K7 l1_7 v_positionCount_7 v_positionOf_7 v_pcOf_7) ∧ ((¬ 60 ≤ v_positionCount_7) → vp_in l1_7 512 ∧ ∀ g_9 : Nat → Int32, g_9 = upd v_positionOf_7 l1_7.toNatClampNeg v_positionCount_7 → vp_in v_positionCount_7 60 ∧ ∀ g_10 : Nat → Int32, g_10 = upd v_pcOf_7 v_positionCount_7.toNatClampNeg l1_7 → ∀ x_11 : Int32, x_11 = v_positionCount_7 + (1 : Int32) → w_X9_numberPositions_68 Q K7 l1_7 x_11 g_9 g_10)))))
def w_X9_numberPositions_7 (v_program_count : Int32) (v_program_kinds : Nat → Int32) (Q : Int32 → (Nat → Int32) → (Nat → Int32) → Prop) : Nat → Int32 → Int32 → (Nat → Int32) → (Nat → Int32) → Prop
  | 0, _, _, _, _ => False
  | n9 + 1, l1_7, v_positionCount_7, v_positionOf_7, v_pcOf_7 => w_X9_numberPositions_7B v_program_count v_program_kinds Q (w_X9_numberPositions_7 v_program_count v_program_kinds Q n9) l1_7 v_positionCount_7 v_positionOf_7 v_pcOf_7
def w_X9_numberPositions (v_program_count : Int32) (v_program_kinds : Nat → Int32) (v_positionOf : Nat → Int32) (v_pcOf : Nat → Int32) (Q : Int32 → (Nat → Int32) → (Nat → Int32) → Prop) : Prop :=
  ∃ k9 : Nat, w_X9_numberPositions_7 v_program_count v_program_kinds Q k9 0 0 v_positionOf v_pcOf
set_option maxHeartbeats 4000000 in
set_option maxRecDepth 100000 in
theorem mt_X9_numberPositions (l : Launch) (dC : Nat → ClassId) (dI : Nat → Nat → Nat) (h0 h1 h2 h3 h4 h5 h6 h7 h8 h9 h10 h11 h12 h13 h14 h15 h16 h17 h18 : Nat) (k0 k1 k2 : ClassId) (v_count : Int32) (v_positionCount : Int32) (v_stamp : Int32) (v_stackCount : Int32) (v_width : Int32) (v_program_start : Int32) (v_program_count : Int32) (v_program_kinds : Nat → Int32) (v_positionOf : Nat → Int32) (v_pcOf : Nat → Int32) (Q : Int32 → (Nat → Int32) → (Nat → Int32) → Prop) (w : w_X9_numberPositions v_program_count v_program_kinds v_positionOf v_pcOf Q) (sz : Nat) : Met l yX9_numberPositions (WS yX9_numberPositions cX9_numberPositions 2 none) ({ frames := 1, cells := 0, slots := 0, locals := 21 } : Room) (va_Pc [.ref h0] (fun U => U.heap.size = sz ∧ va_P (dC, dI) vwCl [(h0, .inr (12, oX9 v_count (.ref h1) v_positionCount (.ref h3) (.ref h4) (.ref h5) (.ref h6) (.ref h7) v_stamp (.ref h8) v_stackCount v_width (.ref h9) (.ref h10) (.ref h11) (.ref h12) (.ref h13) (.ref h14))), (h1, .inr (8, oX5 v_program_start v_program_count (.ref h15) (.ref h2) (.ref h16) (.ref h17) (.ref h18))), (h2, .inl (k0, 512, .inl v_program_kinds)), (h3, .inl (k1, 512, .inl v_positionOf)), (h4, .inl (k2, 60, .inl v_pcOf))] U.heap ∧ va_K (dC, dI) vwCl [(k0, .int), (k1, .int), (k2, .int)] U ∧ va_D (fun _ => True) [(h0, .inr (12, oX9 v_count (.ref h1) v_positionCount (.ref h3) (.ref h4) (.ref h5) (.ref h6) (.ref h7) v_stamp (.ref h8) v_stackCount v_width (.ref h9) (.ref h10) (.ref h11) (.ref h12) (.ref h13) (.ref h14))), (h1, .inr (8, oX5 v_program_start v_program_count (.ref h15) (.ref h2) (.ref h16) (.ref h17) (.ref h18))), (h2, .inl (k0, 512, .inl v_program_kinds)), (h3, .inl (k1, 512, .inl v_positionOf)), (h4, .inl (k2, 60, .inl v_pcOf))])) (va_Qv (fun (u : Nat) => u = 0) (fun (_ : Nat) (t : State) => ∃ (ov_positionCount : Int32), ∃ (ov_positionOf : Nat → Int32), ∃ (ov_pcOf : Nat → Int32), (Q ov_positionCount ov_positionOf ov_pcOf) ∧ va_P (dC, dI) vwCl [(h0, .inr (12, oX9 v_count (.ref h1) ov_positionCount (.ref h3) (.ref h4) (.ref h5) (.ref h6) (.ref h7) v_stamp (.ref h8) v_stackCount v_width (.ref h9) (.ref h10) (.ref h11) (.ref h12) (.ref h13) (.ref h14))), (h1, .inr (8, oX5 v_program_start v_program_count (.ref h15) (.ref h2) (.ref h16) (.ref h17) (.ref h18))), (h2, .inl (k0, 512, .inl v_program_kinds)), (h3, .inl (k1, 512, .inl ov_positionOf)), (h4, .inl (k2, 60, .inl ov_pcOf))] t.heap ∧ va_D (va_A [(h0, .inr (12, oX9 v_count (.ref h1) v_positionCount (.ref h3) (.ref h4) (.ref h5) (.ref h6) (.ref h7) v_stamp (.ref h8) v_stackCount v_width (.ref h9) (.ref h10) (.ref h11) (.ref h12) (.ref h13) (.ref h14))), (h1, .inr (8, oX5 v_program_start v_program_count (.ref h15) (.ref h2) (.ref h16) (.ref h17) (.ref h18))), (h2, .inl (k0, 512, .inl v_program_kinds)), (h3, .inl (k1, 512, .inl v_positionOf)), (h4, .inl (k2, 60, .inl v_pcOf))] sz) [(h0, .inr (12, oX9 v_count (.ref h1) ov_positionCount (.ref h3) (.ref h4) (.ref h5) (.ref h6) (.ref h7) v_stamp (.ref h8) v_stackCount v_width (.ref h9) (.ref h10) (.ref h11) (.ref h12) (.ref h13) (.ref h14))), (h1, .inr (8, oX5 v_program_start v_program_count (.ref h15) (.ref h2) (.ref h16) (.ref h17) (.ref h18))), (h2, .inl (k0, 512, .inl v_program_kinds)), (h3, .inl (k1, 512, .inl ov_positionOf)), (h4, .inl (k2, 60, .inl ov_pcOf))]) (va_A [(h0, .inr (12, oX9 v_count (.ref h1) v_positionCount (.ref h3) (.ref h4) (.ref h5) (.ref h6) (.ref h7) v_stamp (.ref h8) v_stackCount v_width (.ref h9) (.ref h10) (.ref h11) (.ref h12) (.ref h13) (.ref h14))), (h1, .inr (8, oX5 v_program_start v_program_count (.ref h15) (.ref h2) (.ref h16) (.ref h17) (.ref h18))), (h2, .inl (k0, 512, .inl v_program_kinds)), (h3, .inl (k1, 512, .inl v_positionOf)), (h4, .inl (k2, 60, .inl v_pcOf))] sz)) 0 0 (va_A [(h0, .inr (12, oX9 v_count (.ref h1) v_positionCount (.ref h3) (.ref h4) (.ref h5) (.ref h6) (.ref h7) v_stamp (.ref h8) v_stackCount v_width (.ref h9) (.ref h10) (.ref h11) (.ref h12) (.ref h13) (.ref h14))), (h1, .inr (8, oX5 v_program_start v_program_count (.ref h15) (.ref h2) (.ref h16) (.ref h17) (.ref h18))), (h2, .inl (k0, 512, .inl v_program_kinds)), (h3, .inl (k1, 512, .inl v_positionOf)), (h4, .inl (k2, 60, .inl v_pcOf))] sz) := by
  refine Met.ofW (cc := cX9_numberPositions) (maxL := 2) (ret := none) (by decide) rfl ?_
  intro p e s m args below meth c s₁ B hml hv
  obtain ⟨rfl, hsz, hP, hK, hD0⟩ := hv
  have hx := B.exec
  have hb := B.bytes
  have hr := B.returns
  have hts := atoms_spec (ws := WS yX9_numberPositions cX9_numberPositions 2 none) B.pre
  have ht : ∀ w ∈ TW, w.before _ s = true := fun w h => hts w (List.mem_cons_of_mem _ h)
  have hown : s.vm.findClass "PatternWorkshop$Table" = some m.cls := findClass_of_methodNamed B.named
  have hlocks := B.notSynchronized
  subst hsz
  have hD := hD0.self (sz := s.heap.size)
  generalize hAe : va_A [(h0, .inr (12, oX9 v_count (.ref h1) v_positionCount (.ref h3) (.ref h4) (.ref h5) (.ref h6) (.ref h7) v_stamp (.ref h8) v_stackCount v_width (.ref h9) (.ref h10) (.ref h11) (.ref h12) (.ref h13) (.ref h14))), (h1, .inr (8, oX5 v_program_start v_program_count (.ref h15) (.ref h2) (.ref h16) (.ref h17) (.ref h18))), (h2, .inl (k0, 512, .inl v_program_kinds)), (h3, .inl (k1, 512, .inl v_positionOf)), (h4, .inl (k2, 60, .inl v_pcOf))] s.heap.size = A at hD ⊢
  have hA : ∀ q : Nat, s.heap.size ≤ q → A q := fun q h => by rw [← hAe]; exact Or.inr h
  have hS : va_S A s.heap s.heap [] := va_S.rf
  have hP : va_P (dC, dI) vwCl [(h0, .inr (12, oX9 v_count (.ref h1) v_positionCount (.ref h3) (.ref h4) (.ref h5) (.ref h6) (.ref h7) v_stamp (.ref h8) v_stackCount v_width (.ref h9) (.ref h10) (.ref h11) (.ref h12) (.ref h13) (.ref h14))), (h1, .inr (8, oX5 v_program_start v_program_count (.ref h15) (.ref h2) (.ref h16) (.ref h17) (.ref h18))), (h2, .inl (k0, 512, .inl v_program_kinds)), (h3, .inl (k1, 512, .inl v_positionOf)), (h4, .inl (k2, 60, .inl v_pcOf))] s.heap := hP
  have hl := lv_entry ([.ref h0]) (n := 2) (Nat.le_of_ble_eq_true rfl)
  rw [lg_entry_eq]
  generalize (lg_sl ([.ref h0]) ++ List.replicate (2 - (lg_sl ([.ref h0])).length) Slot.unset).toArray = ls at hl ⊢
  have hl : lv_has ls 2 [(0, .ref h0)] := hl
  clear hD0
  obtain ⟨QQ, hQQ⟩ : ∃ QQ, QQ = MQ below (va_Qv (fun (u : Nat) => u = 0) (fun (_ : Nat) (t : State) => ∃ (ov_positionCount : Int32), ∃ (ov_positionOf : Nat → Int32), ∃ (ov_pcOf : Nat → Int32), (Q ov_positionCount ov_positionOf ov_pcOf) ∧ va_P (dC, dI) vwCl [(h0, .inr (12, oX9 v_count (.ref h1) ov_positionCount (.ref h3) (.ref h4) (.ref h5) (.ref h6) (.ref h7) v_stamp (.ref h8) v_stackCount v_width (.ref h9) (.ref h10) (.ref h11) (.ref h12) (.ref h13) (.ref h14))), (h1, .inr (8, oX5 v_program_start v_program_count (.ref h15) (.ref h2) (.ref h16) (.ref h17) (.ref h18))), (h2, .inl (k0, 512, .inl v_program_kinds)), (h3, .inl (k1, 512, .inl ov_positionOf)), (h4, .inl (k2, 60, .inl ov_pcOf))] t.heap ∧ va_D A [(h0, .inr (12, oX9 v_count (.ref h1) ov_positionCount (.ref h3) (.ref h4) (.ref h5) (.ref h6) (.ref h7) v_stamp (.ref h8) v_stackCount v_width (.ref h9) (.ref h10) (.ref h11) (.ref h12) (.ref h13) (.ref h14))), (h1, .inr (8, oX5 v_program_start v_program_count (.ref h15) (.ref h2) (.ref h16) (.ref h17) (.ref h18))), (h2, .inl (k0, 512, .inl v_program_kinds)), (h3, .inl (k1, 512, .inl ov_positionOf)), (h4, .inl (k2, 60, .inl ov_pcOf))]) A) ([.ref h0]).toArray s 0 0 A := ⟨_, rfl⟩
  show W p l e ({ frames := 1, cells := 0, slots := 0, locals := 21 } : Room) s m ([.ref h0]).toArray below meth c s.heap [] 0 0 (MQ below (va_Qv (fun (u : Nat) => u = 0) (fun (_ : Nat) (t : State) => ∃ (ov_positionCount : Int32), ∃ (ov_positionOf : Nat → Int32), ∃ (ov_pcOf : Nat → Int32), (Q ov_positionCount ov_positionOf ov_pcOf) ∧ va_P (dC, dI) vwCl [(h0, .inr (12, oX9 v_count (.ref h1) ov_positionCount (.ref h3) (.ref h4) (.ref h5) (.ref h6) (.ref h7) v_stamp (.ref h8) v_stackCount v_width (.ref h9) (.ref h10) (.ref h11) (.ref h12) (.ref h13) (.ref h14))), (h1, .inr (8, oX5 v_program_start v_program_count (.ref h15) (.ref h2) (.ref h16) (.ref h17) (.ref h18))), (h2, .inl (k0, 512, .inl v_program_kinds)), (h3, .inl (k1, 512, .inl ov_positionOf)), (h4, .inl (k2, 60, .inl ov_pcOf))] t.heap ∧ va_D A [(h0, .inr (12, oX9 v_count (.ref h1) ov_positionCount (.ref h3) (.ref h4) (.ref h5) (.ref h6) (.ref h7) v_stamp (.ref h8) v_stackCount v_width (.ref h9) (.ref h10) (.ref h11) (.ref h12) (.ref h13) (.ref h14))), (h1, .inr (8, oX5 v_program_start v_program_count (.ref h15) (.ref h2) (.ref h16) (.ref h17) (.ref h18))), (h2, .inl (k0, 512, .inl v_program_kinds)), (h3, .inl (k1, 512, .inl ov_positionOf)), (h4, .inl (k2, 60, .inl ov_pcOf))]) A) ([.ref h0]).toArray s 0 0 A) (F0 m 0 ls [])
  rw [← hQQ]
  unfold w_X9_numberPositions at w
  refine lv_aload_n hx hb dX9_numberPositions_0 rfl (lv_at hl 0 rfl) ?_
  refine lv_iconst (v := 0) hx hb dX9_numberPositions_1 (by decide) ?_
  refine va_put (D := (dC, dI)) (ci := 12) (v := .int 0) (ty := .int) (C := RX9) (T := TX9) (N := 18) hx hb ht inX9 tyX9 tyX9_ok nmX9 hown hK hP hD hS 0 rfl rfl 2 (by decide) (ht _ tw_704) (fun _ h9 => h9) rfl (by decide +kernel) rfl rfl (Nat.le_of_ble_eq_true rfl) dX9_numberPositions_2 (fun H_1 locs_1 hP_1 hD_1 hS_1 => ?_)
  have hP_1 : va_P (dC, dI) vwCl [(h0, .inr (12, oX9 v_count (.ref h1) 0 (.ref h3) (.ref h4) (.ref h5) (.ref h6) (.ref h7) v_stamp (.ref h8) v_stackCount v_width (.ref h9) (.ref h10) (.ref h11) (.ref h12) (.ref h13) (.ref h14))), (h1, .inr (8, oX5 v_program_start v_program_count (.ref h15) (.ref h2) (.ref h16) (.ref h17) (.ref h18))), (h2, .inl (k0, 512, .inl v_program_kinds)), (h3, .inl (k1, 512, .inl v_positionOf)), (h4, .inl (k2, 60, .inl v_pcOf))] H_1 := hP_1
  have hD_1 : va_D A [(h0, .inr (12, oX9 v_count (.ref h1) 0 (.ref h3) (.ref h4) (.ref h5) (.ref h6) (.ref h7) v_stamp (.ref h8) v_stackCount v_width (.ref h9) (.ref h10) (.ref h11) (.ref h12) (.ref h13) (.ref h14))), (h1, .inr (8, oX5 v_program_start v_program_count (.ref h15) (.ref h2) (.ref h16) (.ref h17) (.ref h18))), (h2, .inl (k0, 512, .inl v_program_kinds)), (h3, .inl (k1, 512, .inl v_positionOf)), (h4, .inl (k2, 60, .inl v_pcOf))] := hD_1
  refine lv_iconst (v := 0) hx hb dX9_numberPositions_5 (by decide) ?_
  refine lv_istore_n (lv' := [(1, .int 0), (0, .ref h0)]) hx hb dX9_numberPositions_6 rfl hl (by decide) rfl (fun ls_2 hl_2 => ?_)
  clear hl
  have k_7 : ∀ n_7 : Nat, ∀ (l1_7 : Int32) (v_positionCount_7 : Int32) (v_positionOf_7 : Nat → Int32) (v_pcOf_7 : Nat → Int32), ∀ (H_b7 : Heap) (locs_b7 : List Loc) (ls_b7 : Array Slot), w_X9_numberPositions_7 v_program_count v_program_kinds Q n_7 l1_7 v_positionCount_7 v_positionOf_7 v_pcOf_7 → va_P (dC, dI) vwCl [(h0, .inr (12, oX9 v_count (.ref h1) v_positionCount_7 (.ref h3) (.ref h4) (.ref h5) (.ref h6) (.ref h7) v_stamp (.ref h8) v_stackCount v_width (.ref h9) (.ref h10) (.ref h11) (.ref h12) (.ref h13) (.ref h14))), (h1, .inr (8, oX5 v_program_start v_program_count (.ref h15) (.ref h2) (.ref h16) (.ref h17) (.ref h18))), (h2, .inl (k0, 512, .inl v_program_kinds)), (h3, .inl (k1, 512, .inl v_positionOf_7)), (h4, .inl (k2, 60, .inl v_pcOf_7))] H_b7 → va_D A [(h0, .inr (12, oX9 v_count (.ref h1) v_positionCount_7 (.ref h3) (.ref h4) (.ref h5) (.ref h6) (.ref h7) v_stamp (.ref h8) v_stackCount v_width (.ref h9) (.ref h10) (.ref h11) (.ref h12) (.ref h13) (.ref h14))), (h1, .inr (8, oX5 v_program_start v_program_count (.ref h15) (.ref h2) (.ref h16) (.ref h17) (.ref h18))), (h2, .inl (k0, 512, .inl v_program_kinds)), (h3, .inl (k1, 512, .inl v_positionOf_7)), (h4, .inl (k2, 60, .inl v_pcOf_7))] → va_S A s.heap H_b7 locs_b7 → lv_has ls_b7 2 [(0, .ref h0), (1, .int l1_7)] → W p l e ({ frames := 1, cells := 0, slots := 0, locals := 21 } : Room) s m ([.ref h0]).toArray below meth c H_b7 locs_b7 0 0 QQ (F0 m 7 ls_b7 []) := by
    intro n_7
    induction n_7 with
    | zero =>
      intro l1_7 v_positionCount_7 v_positionOf_7 v_pcOf_7 H_b7 locs_b7 ls_b7 w_b7 hP_b7 hD_b7 hS_b7 hl_b7
      exact False.elim (by unfold w_X9_numberPositions_7 at w_b7; exact w_b7)
    | succ n_7 ih_7 =>
      intro l1_7 v_positionCount_7 v_positionOf_7 v_pcOf_7 H_b7 locs_b7 ls_b7 w_b7 hP_b7 hD_b7 hS_b7 hl_b7
      unfold w_X9_numberPositions_7 at w_b7
      unfold w_X9_numberPositions_7B at w_b7
      refine lv_aload_n hx hb dX9_numberPositions_7 rfl (lv_at hl_b7 0 rfl) ?_
      refine va_get (D := (dC, dI)) (ci := 12) (v := .ref h1) (C := RX9) (T := TX9) (N := 18) hx hb ht inX9 hown hK hP_b7 0 rfl rfl 1 (by decide) (ht _ tw_703) (fun _ h9 => h9) rfl dX9_numberPositions_8 ?_
      refine lv_iload_n hx hb dX9_numberPositions_11 rfl (lv_at hl_b7 1 rfl) ?_
      have hPc_3 := hP_b7.sub (ws' := [(h1, .inr (8, oX5 v_program_start v_program_count (.ref h15) (.ref h2) (.ref h16) (.ref h17) (.ref h18)))]) [1] rfl
      have hDc_3 := hD_b7.sub (ws' := [(h1, .inr (8, oX5 v_program_start v_program_count (.ref h15) (.ref h2) (.ref h16) (.ref h17) (.ref h18)))]) [1] (by decide) rfl
      have hKc_3 := hK.sub (tys' := []) [] rfl
      have hFc_3 := va_free (wc := [(h1, .inr (8, oX5 v_program_start v_program_count (.ref h15) (.ref h2) (.ref h16) (.ref h17) (.ref h18)))]) hD_b7 hS_b7 hA [1] rfl
      refine va_calli (va_runV (As := [.int l1_7]) (rest := []) ⟨hx, hb, hml, hown, ht⟩ (mt_X5_has l dC dI h1 h15 h2 h16 h17 h18 l1_7 v_program_start v_program_count _ w_b7 H_b7.size) (cwV 1 ht (goodV tw_1845 tw_1846 tw_1847 tw_245 gw_X5_has) rfl rfl rfl (by decide +kernel) ⟨Nat.le_of_ble_eq_true rfl, Nat.le_of_ble_eq_true rfl⟩) ⟨fun a U g mk q => by obtain ⟨q0, q1, qP, qK, qD⟩ := q; exact ⟨q0, q1, qP, va_K.moved (u := U) (U := U.calling g mk a) (Vm.Alike.refl U.vm) qK, qD⟩, va_recv hKc_3 hPc_3 (ci := 8) (q0 := 0) rfl rfl, fun U hU hW => ⟨rfl, by rw [hU], by rw [hU]; exact hPc_3, va_K.moved hW.alike hKc_3, hDc_3.weaken (fun _ _ _ _ => trivial)⟩⟩ rfl rfl hl_b7.1 rfl (lv_room (Nat.le_of_ble_eq_true rfl)) dX9_numberPositions_12 ⟨Nat.le_of_ble_eq_true rfl, Nat.le_of_ble_eq_true rfl⟩) hS_b7 (fun q _ h => hFc_3 q h) hFc_3 (fun r_3 u_3 t_3 H_3 locs_3 ht_3 hvm_3 hw_3 hB_3 hz_3 hk_3 hS_3 => ?_)
      subst hw_3
      obtain ⟨w_3, hP1_3, hD1_3⟩ := hB_3
      rw [ht_3] at hP1_3
      obtain ⟨hP_3, hD_3⟩ := va_join (wr := [(h0, .inr (12, oX9 v_count (.ref h1) v_positionCount_7 (.ref h3) (.ref h4) (.ref h5) (.ref h6) (.ref h7) v_stamp (.ref h8) v_stackCount v_width (.ref h9) (.ref h10) (.ref h11) (.ref h12) (.ref h13) (.ref h14))), (h2, .inl (k0, 512, .inl v_program_kinds)), (h3, .inl (k1, 512, .inl v_positionOf_7)), (h4, .inl (k2, 60, .inl v_pcOf_7))]) (w1 := [(h1, .inr (8, oX5 v_program_start v_program_count (.ref h15) (.ref h2) (.ref h16) (.ref h17) (.ref h18)))]) hP_b7 hD_b7 [1] [0, 2, 3, 4] rfl rfl (by decide) (by decide) hk_3 hFc_3 hP1_3 hD1_3
      have hP_3 := hP_3.sub (ws' := [(h0, .inr (12, oX9 v_count (.ref h1) v_positionCount_7 (.ref h3) (.ref h4) (.ref h5) (.ref h6) (.ref h7) v_stamp (.ref h8) v_stackCount v_width (.ref h9) (.ref h10) (.ref h11) (.ref h12) (.ref h13) (.ref h14))), (h1, .inr (8, oX5 v_program_start v_program_count (.ref h15) (.ref h2) (.ref h16) (.ref h17) (.ref h18))), (h2, .inl (k0, 512, .inl v_program_kinds)), (h3, .inl (k1, 512, .inl v_positionOf_7)), (h4, .inl (k2, 60, .inl v_pcOf_7))]) [0, 4, 1, 2, 3] rfl
      have hD_3 := hD_3.sub (ws' := [(h0, .inr (12, oX9 v_count (.ref h1) v_positionCount_7 (.ref h3) (.ref h4) (.ref h5) (.ref h6) (.ref h7) v_stamp (.ref h8) v_stackCount v_width (.ref h9) (.ref h10) (.ref h11) (.ref h12) (.ref h13) (.ref h14))), (h1, .inr (8, oX5 v_program_start v_program_count (.ref h15) (.ref h2) (.ref h16) (.ref h17) (.ref h18))), (h2, .inl (k0, 512, .inl v_program_kinds)), (h3, .inl (k1, 512, .inl v_positionOf_7)), (h4, .inl (k2, 60, .inl v_pcOf_7))]) [0, 4, 1, 2, 3] (by decide) rfl
      clear hPc_3 hDc_3 hKc_3 hFc_3 hP1_3 hD1_3 hk_3 hz_3
      refine lv_if_eq (tgt := 74) hx hb dX9_numberPositions_15 (by decide) (fun c_4 => ?_) (fun c_4 => ?_)
      · rw [hQQ]
        exact W.vret hx hb hr (fun t9 ht9 hW9 => ⟨⟨0, rfl, rfl, ⟨v_positionCount_7, v_positionOf_7, v_pcOf_7, w_3.1 c_4, by rw [ht9]; exact hP_3, hD_3⟩⟩, hS_3.F ht9⟩) hS_3.2.2 dX9_numberPositions_74
      · refine lv_aload_n hx hb dX9_numberPositions_18 rfl (lv_at hl_b7 0 rfl) ?_
        refine va_get (D := (dC, dI)) (ci := 12) (v := .ref h1) (C := RX9) (T := TX9) (N := 18) hx hb ht inX9 hown hK hP_3 0 rfl rfl 1 (by decide) (ht _ tw_703) (fun _ h9 => h9) rfl dX9_numberPositions_19 ?_
        refine lv_iload_n hx hb dX9_numberPositions_22 rfl (lv_at hl_b7 1 rfl) ?_
        have hPc_5 := hP_3.sub (ws' := [(h1, .inr (8, oX5 v_program_start v_program_count (.ref h15) (.ref h2) (.ref h16) (.ref h17) (.ref h18))), (h2, .inl (k0, 512, .inl v_program_kinds))]) [1, 2] rfl
        have hDc_5 := hD_3.sub (ws' := [(h1, .inr (8, oX5 v_program_start v_program_count (.ref h15) (.ref h2) (.ref h16) (.ref h17) (.ref h18))), (h2, .inl (k0, 512, .inl v_program_kinds))]) [1, 2] (by decide) rfl
        have hKc_5 := hK.sub (tys' := [(k0, .int)]) [0] rfl
        have hFc_5 := va_free (wc := [(h1, .inr (8, oX5 v_program_start v_program_count (.ref h15) (.ref h2) (.ref h16) (.ref h17) (.ref h18))), (h2, .inl (k0, 512, .inl v_program_kinds))]) hD_3 hS_3 hA [1, 2] rfl
        refine va_calli (va_runV (As := [.int l1_7]) (rest := []) ⟨hx, hb, hml, hown, ht⟩ (mt_X5_kindOf l dC dI h1 h2 h15 h16 h17 h18 k0 l1_7 v_program_start v_program_count v_program_kinds _ (w_3.2 c_4) H_3.size) (cwV 1 ht (goodV tw_1849 tw_1537 tw_1538 tw_245 gw_X5_kindOf) rfl rfl rfl (by decide +kernel) ⟨Nat.le_of_ble_eq_true rfl, Nat.le_of_ble_eq_true rfl⟩) ⟨fun a U g mk q => by obtain ⟨q0, q1, qP, qK, qD⟩ := q; exact ⟨q0, q1, qP, va_K.moved (u := U) (U := U.calling g mk a) (Vm.Alike.refl U.vm) qK, qD⟩, va_recv hKc_5 hPc_5 (ci := 8) (q0 := 0) rfl rfl, fun U hU hW => ⟨rfl, by rw [hU], by rw [hU]; exact hPc_5, va_K.moved hW.alike hKc_5, hDc_5.weaken (fun _ _ _ _ => trivial)⟩⟩ rfl rfl hl_b7.1 rfl (lv_room (Nat.le_of_ble_eq_true rfl)) dX9_numberPositions_23 ⟨Nat.le_of_ble_eq_true rfl, Nat.le_of_ble_eq_true rfl⟩) hS_3 (fun q _ h => hFc_5 q h) hFc_5 (fun r_5 u_5 t_5 H_5 locs_5 ht_5 hvm_5 hw_5 hB_5 hz_5 hk_5 hS_5 => ?_)
        subst hw_5
        obtain ⟨w_5, hP1_5, hD1_5⟩ := hB_5
        rw [ht_5] at hP1_5
        obtain ⟨hP_5, hD_5⟩ := va_join (wr := [(h0, .inr (12, oX9 v_count (.ref h1) v_positionCount_7 (.ref h3) (.ref h4) (.ref h5) (.ref h6) (.ref h7) v_stamp (.ref h8) v_stackCount v_width (.ref h9) (.ref h10) (.ref h11) (.ref h12) (.ref h13) (.ref h14))), (h3, .inl (k1, 512, .inl v_positionOf_7)), (h4, .inl (k2, 60, .inl v_pcOf_7))]) (w1 := [(h1, .inr (8, oX5 v_program_start v_program_count (.ref h15) (.ref h2) (.ref h16) (.ref h17) (.ref h18))), (h2, .inl (k0, 512, .inl v_program_kinds))]) hP_3 hD_3 [1, 2] [0, 3, 4] rfl rfl (by decide) (by decide) hk_5 hFc_5 hP1_5 hD1_5
        have hP_5 := hP_5.sub (ws' := [(h0, .inr (12, oX9 v_count (.ref h1) v_positionCount_7 (.ref h3) (.ref h4) (.ref h5) (.ref h6) (.ref h7) v_stamp (.ref h8) v_stackCount v_width (.ref h9) (.ref h10) (.ref h11) (.ref h12) (.ref h13) (.ref h14))), (h1, .inr (8, oX5 v_program_start v_program_count (.ref h15) (.ref h2) (.ref h16) (.ref h17) (.ref h18))), (h2, .inl (k0, 512, .inl v_program_kinds)), (h3, .inl (k1, 512, .inl v_positionOf_7)), (h4, .inl (k2, 60, .inl v_pcOf_7))]) [0, 3, 4, 1, 2] rfl
        have hD_5 := hD_5.sub (ws' := [(h0, .inr (12, oX9 v_count (.ref h1) v_positionCount_7 (.ref h3) (.ref h4) (.ref h5) (.ref h6) (.ref h7) v_stamp (.ref h8) v_stackCount v_width (.ref h9) (.ref h10) (.ref h11) (.ref h12) (.ref h13) (.ref h14))), (h1, .inr (8, oX5 v_program_start v_program_count (.ref h15) (.ref h2) (.ref h16) (.ref h17) (.ref h18))), (h2, .inl (k0, 512, .inl v_program_kinds)), (h3, .inl (k1, 512, .inl v_positionOf_7)), (h4, .inl (k2, 60, .inl v_pcOf_7))]) [0, 3, 4, 1, 2] (by decide) rfl
        clear hPc_5 hDc_5 hKc_5 hFc_5 hP1_5 hD1_5 hk_5 hz_5
        have k_68 : ∀ (l1_68 : Int32) (v_positionCount_68 : Int32) (v_positionOf_68 : Nat → Int32) (v_pcOf_68 : Nat → Int32), ∀ (H_b68 : Heap) (locs_b68 : List Loc) (ls_b68 : Array Slot), w_X9_numberPositions_68 Q (w_X9_numberPositions_7 v_program_count v_program_kinds Q n_7) l1_68 v_positionCount_68 v_positionOf_68 v_pcOf_68 → va_P (dC, dI) vwCl [(h0, .inr (12, oX9 v_count (.ref h1) v_positionCount_68 (.ref h3) (.ref h4) (.ref h5) (.ref h6) (.ref h7) v_stamp (.ref h8) v_stackCount v_width (.ref h9) (.ref h10) (.ref h11) (.ref h12) (.ref h13) (.ref h14))), (h1, .inr (8, oX5 v_program_start v_program_count (.ref h15) (.ref h2) (.ref h16) (.ref h17) (.ref h18))), (h2, .inl (k0, 512, .inl v_program_kinds)), (h3, .inl (k1, 512, .inl v_positionOf_68)), (h4, .inl (k2, 60, .inl v_pcOf_68))] H_b68 → va_D A [(h0, .inr (12, oX9 v_count (.ref h1) v_positionCount_68 (.ref h3) (.ref h4) (.ref h5) (.ref h6) (.ref h7) v_stamp (.ref h8) v_stackCount v_width (.ref h9) (.ref h10) (.ref h11) (.ref h12) (.ref h13) (.ref h14))), (h1, .inr (8, oX5 v_program_start v_program_count (.ref h15) (.ref h2) (.ref h16) (.ref h17) (.ref h18))), (h2, .inl (k0, 512, .inl v_program_kinds)), (h3, .inl (k1, 512, .inl v_positionOf_68)), (h4, .inl (k2, 60, .inl v_pcOf_68))] → va_S A s.heap H_b68 locs_b68 → lv_has ls_b68 2 [(0, .ref h0), (1, .int l1_68)] → W p l e ({ frames := 1, cells := 0, slots := 0, locals := 21 } : Room) s m ([.ref h0]).toArray below meth c H_b68 locs_b68 0 0 QQ (F0 m 68 ls_b68 []) := by
          intro l1_68 v_positionCount_68 v_positionOf_68 v_pcOf_68 H_b68 locs_b68 ls_b68 w_b68 hP_b68 hD_b68 hS_b68 hl_b68
          unfold w_X9_numberPositions_68 at w_b68
          obtain ⟨x_6, ex_6⟩ : ∃ y : Int32, y = l1_68 + 1 := ⟨_, rfl⟩
          refine lv_iinc (v := x_6) (lv' := [(1, .int x_6), (0, .ref h0)]) hx hb dX9_numberPositions_68 hl_b68 (k := 1) rfl ex_6.symm (by decide) rfl (fun ls_6 hl_6 => ?_)
          refine lv_goto (tgt := 7) hx hb dX9_numberPositions_71 (by decide) ?_
          exact ih_7 x_6 v_positionCount_68 v_positionOf_68 v_pcOf_68 _ _ _ (w_b68 x_6 ex_6) hP_b68 hD_b68 hS_b68 (lv_sub hl_6 [1, 0] rfl)
        refine lv_if_ne (tgt := 68) hx hb dX9_numberPositions_26 (by decide) (fun c_7 => ?_) (fun c_7 => ?_)
        · exact k_68 l1_7 v_positionCount_7 v_positionOf_7 v_pcOf_7 _ _ _ (w_5.1 c_7) hP_5 hD_5 hS_5 (lv_sub hl_b7 [0, 1] rfl)
        · refine lv_aload_n hx hb dX9_numberPositions_29 rfl (lv_at hl_b7 0 rfl) ?_
          refine va_get (D := (dC, dI)) (ci := 12) (v := .int v_positionCount_7) (C := RX9) (T := TX9) (N := 18) hx hb ht inX9 hown hK hP_5 0 rfl rfl 2 (by decide) (ht _ tw_704) (fun _ h9 => h9) rfl dX9_numberPositions_30 ?_
          refine lv_bipush (v := 60) hx hb dX9_numberPositions_33 (by decide) ?_
          refine lv_icmp_ge (tgt := 68) hx hb dX9_numberPositions_35 (by decide) (fun c_8 => ?_) (fun c_8 => ?_)
          · exact k_68 l1_7 v_positionCount_7 v_positionOf_7 v_pcOf_7 _ _ _ ((w_5.2 c_7).1 c_8) hP_5 hD_5 hS_5 (lv_sub hl_b7 [0, 1] rfl)
          · refine lv_aload_n hx hb dX9_numberPositions_38 rfl (lv_at hl_b7 0 rfl) ?_
            refine va_get (D := (dC, dI)) (ci := 12) (v := .ref h3) (C := RX9) (T := TX9) (N := 18) hx hb ht inX9 hown hK hP_5 0 rfl rfl 3 (by decide) (ht _ tw_705) (fun _ h9 => h9) rfl dX9_numberPositions_39 ?_
            refine lv_iload_n hx hb dX9_numberPositions_42 rfl (lv_at hl_b7 1 rfl) ?_
            refine lv_aload_n hx hb dX9_numberPositions_43 rfl (lv_at hl_b7 0 rfl) ?_
            refine va_get (D := (dC, dI)) (ci := 12) (v := .int v_positionCount_7) (C := RX9) (T := TX9) (N := 18) hx hb ht inX9 hown hK hP_5 0 rfl rfl 2 (by decide) (ht _ tw_704) (fun _ h9 => h9) rfl dX9_numberPositions_44 ?_
            refine va_iast hx hb hK hP_5 hD_5 hS_5 3 1 rfl rfl (i := l1_7) ((w_5.2 c_7).2 c_8).1 dX9_numberPositions_47 (fun H_9 locs_9 hP_9 hD_9 hS_9 => ?_)
            obtain ⟨g_9, hg_9⟩ : ∃ g : Nat → Int32, g = upd v_positionOf_7 l1_7.toNatClampNeg v_positionCount_7 := ⟨_, rfl⟩
            have hP_9 : va_P (dC, dI) vwCl [(h0, .inr (12, oX9 v_count (.ref h1) v_positionCount_7 (.ref h3) (.ref h4) (.ref h5) (.ref h6) (.ref h7) v_stamp (.ref h8) v_stackCount v_width (.ref h9) (.ref h10) (.ref h11) (.ref h12) (.ref h13) (.ref h14))), (h1, .inr (8, oX5 v_program_start v_program_count (.ref h15) (.ref h2) (.ref h16) (.ref h17) (.ref h18))), (h2, .inl (k0, 512, .inl v_program_kinds)), (h3, .inl (k1, 512, .inl g_9)), (h4, .inl (k2, 60, .inl v_pcOf_7))] H_9 := by rw [hg_9]; exact hP_9
            have hD_9 : va_D A [(h0, .inr (12, oX9 v_count (.ref h1) v_positionCount_7 (.ref h3) (.ref h4) (.ref h5) (.ref h6) (.ref h7) v_stamp (.ref h8) v_stackCount v_width (.ref h9) (.ref h10) (.ref h11) (.ref h12) (.ref h13) (.ref h14))), (h1, .inr (8, oX5 v_program_start v_program_count (.ref h15) (.ref h2) (.ref h16) (.ref h17) (.ref h18))), (h2, .inl (k0, 512, .inl v_program_kinds)), (h3, .inl (k1, 512, .inl g_9)), (h4, .inl (k2, 60, .inl v_pcOf_7))] := by rw [hg_9]; exact hD_9
            refine lv_aload_n hx hb dX9_numberPositions_48 rfl (lv_at hl_b7 0 rfl) ?_
            refine va_get (D := (dC, dI)) (ci := 12) (v := .ref h4) (C := RX9) (T := TX9) (N := 18) hx hb ht inX9 hown hK hP_9 0 rfl rfl 4 (by decide) (ht _ tw_706) (fun _ h9 => h9) rfl dX9_numberPositions_49 ?_
            refine lv_aload_n hx hb dX9_numberPositions_52 rfl (lv_at hl_b7 0 rfl) ?_
            refine va_get (D := (dC, dI)) (ci := 12) (v := .int v_positionCount_7) (C := RX9) (T := TX9) (N := 18) hx hb ht inX9 hown hK hP_9 0 rfl rfl 2 (by decide) (ht _ tw_704) (fun _ h9 => h9) rfl dX9_numberPositions_53 ?_
            refine lv_iload_n hx hb dX9_numberPositions_56 rfl (lv_at hl_b7 1 rfl) ?_
            refine va_iast hx hb hK hP_9 hD_9 hS_9 4 2 rfl rfl (i := v_positionCount_7) ((((w_5.2 c_7).2 c_8).2) g_9 hg_9).1 dX9_numberPositions_57 (fun H_10 locs_10 hP_10 hD_10 hS_10 => ?_)
            obtain ⟨g_10, hg_10⟩ : ∃ g : Nat → Int32, g = upd v_pcOf_7 v_positionCount_7.toNatClampNeg l1_7 := ⟨_, rfl⟩
            have hP_10 : va_P (dC, dI) vwCl [(h0, .inr (12, oX9 v_count (.ref h1) v_positionCount_7 (.ref h3) (.ref h4) (.ref h5) (.ref h6) (.ref h7) v_stamp (.ref h8) v_stackCount v_width (.ref h9) (.ref h10) (.ref h11) (.ref h12) (.ref h13) (.ref h14))), (h1, .inr (8, oX5 v_program_start v_program_count (.ref h15) (.ref h2) (.ref h16) (.ref h17) (.ref h18))), (h2, .inl (k0, 512, .inl v_program_kinds)), (h3, .inl (k1, 512, .inl g_9)), (h4, .inl (k2, 60, .inl g_10))] H_10 := by rw [hg_10]; exact hP_10
            have hD_10 : va_D A [(h0, .inr (12, oX9 v_count (.ref h1) v_positionCount_7 (.ref h3) (.ref h4) (.ref h5) (.ref h6) (.ref h7) v_stamp (.ref h8) v_stackCount v_width (.ref h9) (.ref h10) (.ref h11) (.ref h12) (.ref h13) (.ref h14))), (h1, .inr (8, oX5 v_program_start v_program_count (.ref h15) (.ref h2) (.ref h16) (.ref h17) (.ref h18))), (h2, .inl (k0, 512, .inl v_program_kinds)), (h3, .inl (k1, 512, .inl g_9)), (h4, .inl (k2, 60, .inl g_10))] := by rw [hg_10]; exact hD_10
            refine lv_aload_n hx hb dX9_numberPositions_58 rfl (lv_at hl_b7 0 rfl) ?_
            refine lv_dup hx hb dX9_numberPositions_59 rfl ?_
            refine va_get (D := (dC, dI)) (ci := 12) (v := .int v_positionCount_7) (C := RX9) (T := TX9) (N := 18) hx hb ht inX9 hown hK hP_10 0 rfl rfl 2 (by decide) (ht _ tw_704) (fun _ h9 => h9) rfl dX9_numberPositions_60 ?_
            refine lv_iconst (v := 1) hx hb dX9_numberPositions_63 (by decide) ?_
            refine lv_iadd hx hb dX9_numberPositions_64 ?_
            refine lv_topi (fun x_11 ex_11 => ?_)
            have ex_11 : x_11 = v_positionCount_7 + (1 : Int32) := ex_11
            refine va_put (D := (dC, dI)) (ci := 12) (v := .int x_11) (ty := .int) (C := RX9) (T := TX9) (N := 18) hx hb ht inX9 tyX9 tyX9_ok nmX9 hown hK hP_10 hD_10 hS_10 0 rfl rfl 2 (by decide) (ht _ tw_704) (fun _ h9 => h9) rfl (by decide +kernel) rfl rfl (Nat.le_of_ble_eq_true rfl) dX9_numberPositions_65 (fun H_12 locs_12 hP_12 hD_12 hS_12 => ?_)
            have hP_12 : va_P (dC, dI) vwCl [(h0, .inr (12, oX9 v_count (.ref h1) x_11 (.ref h3) (.ref h4) (.ref h5) (.ref h6) (.ref h7) v_stamp (.ref h8) v_stackCount v_width (.ref h9) (.ref h10) (.ref h11) (.ref h12) (.ref h13) (.ref h14))), (h1, .inr (8, oX5 v_program_start v_program_count (.ref h15) (.ref h2) (.ref h16) (.ref h17) (.ref h18))), (h2, .inl (k0, 512, .inl v_program_kinds)), (h3, .inl (k1, 512, .inl g_9)), (h4, .inl (k2, 60, .inl g_10))] H_12 := hP_12
            have hD_12 : va_D A [(h0, .inr (12, oX9 v_count (.ref h1) x_11 (.ref h3) (.ref h4) (.ref h5) (.ref h6) (.ref h7) v_stamp (.ref h8) v_stackCount v_width (.ref h9) (.ref h10) (.ref h11) (.ref h12) (.ref h13) (.ref h14))), (h1, .inr (8, oX5 v_program_start v_program_count (.ref h15) (.ref h2) (.ref h16) (.ref h17) (.ref h18))), (h2, .inl (k0, 512, .inl v_program_kinds)), (h3, .inl (k1, 512, .inl g_9)), (h4, .inl (k2, 60, .inl g_10))] := hD_12
            have w_13 := ((((((w_5.2 c_7).2 c_8).2) g_9 hg_9).2) g_10 hg_10) x_11 ex_11
            exact k_68 l1_7 x_11 g_9 g_10 _ _ _ w_13 hP_12 hD_12 hS_12 (lv_sub hl_b7 [0, 1] rfl)
  obtain ⟨n_14, w_14⟩ := w
  exact k_7 n_14 0 0 v_positionOf v_pcOf _ _ _ w_14 hP_1 hD_1 hS_1 (lv_sub hl_2 [1, 0] rfl)
def w_X9_push_73 (Q : Int32 → (Nat → Int32) → (Nat → Int32) → Prop) (v_stackCount_73 : Int32) (v_seen_73 : Nat → Int32) (v_stack_73 : Nat → Int32) : Prop :=
  Q  v_stackCount_73 v_seen_73 v_stack_73
def w_X9_push (p1 : Int32) (v_stamp : Int32) (v_stackCount : Int32) (v_seen : Nat → Int32) (v_stack : Nat → Int32) (Q : Int32 → (Nat → Int32) → (Nat → Int32) → Prop) : Prop :=
  ((p1 < 0) → w_X9_push_73 Q v_stackCount v_seen v_stack) ∧ ((¬ p1 < 0) → ((512 ≤ p1) → w_X9_push_73 Q v_stackCount v_seen v_stack) ∧ ((¬ 512 ≤ p1) → vp_in p1 512 ∧ ∀ x_3 : Int32, x_3 = v_seen p1.toNatClampNeg → ((x_3 = v_stamp) → w_X9_push_73 Q v_stackCount v_seen v_stack) ∧ ((¬ x_3 = v_stamp) → ((v_stackCount < 0) → w_X9_push_73 Q v_stackCount v_seen v_stack) ∧ ((¬ v_stackCount < 0) → ((512 ≤ v_stackCount) → w_X9_push_73 Q v_stackCount v_seen v_stack) ∧ ((¬ 512 ≤ v_stackCount) → vp_in p1 512 ∧ ∀ g_9 : Nat → Int32, g_9 = upd v_seen p1.toNatClampNeg v_stamp → vp_in v_stackCount 512 ∧ ∀ g_10 : Nat → Int32, g_10 = upd v_stack v_stackCount.toNatClampNeg p1 → ∀ x_11 : Int32, x_11 = v_stackCount + (1 : Int32) → w_X9_push_73 Q x_11 g_9 g_10)))))
set_option maxHeartbeats 4000000 in
set_option maxRecDepth 100000 in
theorem mt_X9_push (l : Launch) (dC : Nat → ClassId) (dI : Nat → Nat → Nat) (h0 h1 h2 h3 h4 h5 h6 h7 h8 h9 h10 h11 h12 h13 : Nat) (k0 k1 : ClassId) (p1 : Int32) (v_count : Int32) (v_positionCount : Int32) (v_stamp : Int32) (v_stackCount : Int32) (v_width : Int32) (v_seen : Nat → Int32) (v_stack : Nat → Int32) (Q : Int32 → (Nat → Int32) → (Nat → Int32) → Prop) (w : w_X9_push p1 v_stamp v_stackCount v_seen v_stack Q) (sz : Nat) : Met l yX9_push (WS yX9_push cX9_push 2 none) ({ frames := 0, cells := 0, slots := 0, locals := 0 } : Room) (va_Pc [.ref h0, .int p1] (fun U => U.heap.size = sz ∧ va_P (dC, dI) vwCl [(h0, .inr (12, oX9 v_count (.ref h3) v_positionCount (.ref h4) (.ref h5) (.ref h6) (.ref h7) (.ref h1) v_stamp (.ref h2) v_stackCount v_width (.ref h8) (.ref h9) (.ref h10) (.ref h11) (.ref h12) (.ref h13))), (h1, .inl (k0, 512, .inl v_seen)), (h2, .inl (k1, 512, .inl v_stack))] U.heap ∧ va_K (dC, dI) vwCl [(k0, .int), (k1, .int)] U ∧ va_D (fun _ => True) [(h0, .inr (12, oX9 v_count (.ref h3) v_positionCount (.ref h4) (.ref h5) (.ref h6) (.ref h7) (.ref h1) v_stamp (.ref h2) v_stackCount v_width (.ref h8) (.ref h9) (.ref h10) (.ref h11) (.ref h12) (.ref h13))), (h1, .inl (k0, 512, .inl v_seen)), (h2, .inl (k1, 512, .inl v_stack))])) (va_Qv (fun (u : Nat) => u = 0) (fun (_ : Nat) (t : State) => ∃ (ov_stackCount : Int32), ∃ (ov_seen : Nat → Int32), ∃ (ov_stack : Nat → Int32), (Q ov_stackCount ov_seen ov_stack) ∧ va_P (dC, dI) vwCl [(h0, .inr (12, oX9 v_count (.ref h3) v_positionCount (.ref h4) (.ref h5) (.ref h6) (.ref h7) (.ref h1) v_stamp (.ref h2) ov_stackCount v_width (.ref h8) (.ref h9) (.ref h10) (.ref h11) (.ref h12) (.ref h13))), (h1, .inl (k0, 512, .inl ov_seen)), (h2, .inl (k1, 512, .inl ov_stack))] t.heap ∧ va_D (va_A [(h0, .inr (12, oX9 v_count (.ref h3) v_positionCount (.ref h4) (.ref h5) (.ref h6) (.ref h7) (.ref h1) v_stamp (.ref h2) v_stackCount v_width (.ref h8) (.ref h9) (.ref h10) (.ref h11) (.ref h12) (.ref h13))), (h1, .inl (k0, 512, .inl v_seen)), (h2, .inl (k1, 512, .inl v_stack))] sz) [(h0, .inr (12, oX9 v_count (.ref h3) v_positionCount (.ref h4) (.ref h5) (.ref h6) (.ref h7) (.ref h1) v_stamp (.ref h2) ov_stackCount v_width (.ref h8) (.ref h9) (.ref h10) (.ref h11) (.ref h12) (.ref h13))), (h1, .inl (k0, 512, .inl ov_seen)), (h2, .inl (k1, 512, .inl ov_stack))]) (va_A [(h0, .inr (12, oX9 v_count (.ref h3) v_positionCount (.ref h4) (.ref h5) (.ref h6) (.ref h7) (.ref h1) v_stamp (.ref h2) v_stackCount v_width (.ref h8) (.ref h9) (.ref h10) (.ref h11) (.ref h12) (.ref h13))), (h1, .inl (k0, 512, .inl v_seen)), (h2, .inl (k1, 512, .inl v_stack))] sz)) 0 0 (va_A [(h0, .inr (12, oX9 v_count (.ref h3) v_positionCount (.ref h4) (.ref h5) (.ref h6) (.ref h7) (.ref h1) v_stamp (.ref h2) v_stackCount v_width (.ref h8) (.ref h9) (.ref h10) (.ref h11) (.ref h12) (.ref h13))), (h1, .inl (k0, 512, .inl v_seen)), (h2, .inl (k1, 512, .inl v_stack))] sz) := by
  refine Met.ofW (cc := cX9_push) (maxL := 2) (ret := none) (by decide) rfl ?_
  intro p e s m args below meth c s₁ B hml hv
  obtain ⟨rfl, hsz, hP, hK, hD0⟩ := hv
  have hx := B.exec
  have hb := B.bytes
  have hr := B.returns
  have hts := atoms_spec (ws := WS yX9_push cX9_push 2 none) B.pre
  have ht : ∀ w ∈ TW, w.before _ s = true := fun w h => hts w (List.mem_cons_of_mem _ h)
  have hown : s.vm.findClass "PatternWorkshop$Table" = some m.cls := findClass_of_methodNamed B.named
  have hlocks := B.notSynchronized
  subst hsz
  have hD := hD0.self (sz := s.heap.size)
  generalize hAe : va_A [(h0, .inr (12, oX9 v_count (.ref h3) v_positionCount (.ref h4) (.ref h5) (.ref h6) (.ref h7) (.ref h1) v_stamp (.ref h2) v_stackCount v_width (.ref h8) (.ref h9) (.ref h10) (.ref h11) (.ref h12) (.ref h13))), (h1, .inl (k0, 512, .inl v_seen)), (h2, .inl (k1, 512, .inl v_stack))] s.heap.size = A at hD ⊢
  have hA : ∀ q : Nat, s.heap.size ≤ q → A q := fun q h => by rw [← hAe]; exact Or.inr h
  have hS : va_S A s.heap s.heap [] := va_S.rf
  have hP : va_P (dC, dI) vwCl [(h0, .inr (12, oX9 v_count (.ref h3) v_positionCount (.ref h4) (.ref h5) (.ref h6) (.ref h7) (.ref h1) v_stamp (.ref h2) v_stackCount v_width (.ref h8) (.ref h9) (.ref h10) (.ref h11) (.ref h12) (.ref h13))), (h1, .inl (k0, 512, .inl v_seen)), (h2, .inl (k1, 512, .inl v_stack))] s.heap := hP
  have hl := lv_entry ([.ref h0, .int p1]) (n := 2) (Nat.le_of_ble_eq_true rfl)
  rw [lg_entry_eq]
  generalize (lg_sl ([.ref h0, .int p1]) ++ List.replicate (2 - (lg_sl ([.ref h0, .int p1])).length) Slot.unset).toArray = ls at hl ⊢
  have hl : lv_has ls 2 [(0, .ref h0), (1, .int p1)] := hl
  clear hD0
  obtain ⟨QQ, hQQ⟩ : ∃ QQ, QQ = MQ below (va_Qv (fun (u : Nat) => u = 0) (fun (_ : Nat) (t : State) => ∃ (ov_stackCount : Int32), ∃ (ov_seen : Nat → Int32), ∃ (ov_stack : Nat → Int32), (Q ov_stackCount ov_seen ov_stack) ∧ va_P (dC, dI) vwCl [(h0, .inr (12, oX9 v_count (.ref h3) v_positionCount (.ref h4) (.ref h5) (.ref h6) (.ref h7) (.ref h1) v_stamp (.ref h2) ov_stackCount v_width (.ref h8) (.ref h9) (.ref h10) (.ref h11) (.ref h12) (.ref h13))), (h1, .inl (k0, 512, .inl ov_seen)), (h2, .inl (k1, 512, .inl ov_stack))] t.heap ∧ va_D A [(h0, .inr (12, oX9 v_count (.ref h3) v_positionCount (.ref h4) (.ref h5) (.ref h6) (.ref h7) (.ref h1) v_stamp (.ref h2) ov_stackCount v_width (.ref h8) (.ref h9) (.ref h10) (.ref h11) (.ref h12) (.ref h13))), (h1, .inl (k0, 512, .inl ov_seen)), (h2, .inl (k1, 512, .inl ov_stack))]) A) ([.ref h0, .int p1]).toArray s 0 0 A := ⟨_, rfl⟩
  show W p l e ({ frames := 0, cells := 0, slots := 0, locals := 0 } : Room) s m ([.ref h0, .int p1]).toArray below meth c s.heap [] 0 0 (MQ below (va_Qv (fun (u : Nat) => u = 0) (fun (_ : Nat) (t : State) => ∃ (ov_stackCount : Int32), ∃ (ov_seen : Nat → Int32), ∃ (ov_stack : Nat → Int32), (Q ov_stackCount ov_seen ov_stack) ∧ va_P (dC, dI) vwCl [(h0, .inr (12, oX9 v_count (.ref h3) v_positionCount (.ref h4) (.ref h5) (.ref h6) (.ref h7) (.ref h1) v_stamp (.ref h2) ov_stackCount v_width (.ref h8) (.ref h9) (.ref h10) (.ref h11) (.ref h12) (.ref h13))), (h1, .inl (k0, 512, .inl ov_seen)), (h2, .inl (k1, 512, .inl ov_stack))] t.heap ∧ va_D A [(h0, .inr (12, oX9 v_count (.ref h3) v_positionCount (.ref h4) (.ref h5) (.ref h6) (.ref h7) (.ref h1) v_stamp (.ref h2) ov_stackCount v_width (.ref h8) (.ref h9) (.ref h10) (.ref h11) (.ref h12) (.ref h13))), (h1, .inl (k0, 512, .inl ov_seen)), (h2, .inl (k1, 512, .inl ov_stack))]) A) ([.ref h0, .int p1]).toArray s 0 0 A) (F0 m 0 ls [])
  rw [← hQQ]
  unfold w_X9_push at w
  refine lv_iload_n hx hb dX9_push_0 rfl (lv_at hl 1 rfl) ?_
  have k_73 : ∀ (v_stackCount_73 : Int32) (v_seen_73 : Nat → Int32) (v_stack_73 : Nat → Int32), ∀ (H_b73 : Heap) (locs_b73 : List Loc) (ls_b73 : Array Slot), w_X9_push_73 Q v_stackCount_73 v_seen_73 v_stack_73 → va_P (dC, dI) vwCl [(h0, .inr (12, oX9 v_count (.ref h3) v_positionCount (.ref h4) (.ref h5) (.ref h6) (.ref h7) (.ref h1) v_stamp (.ref h2) v_stackCount_73 v_width (.ref h8) (.ref h9) (.ref h10) (.ref h11) (.ref h12) (.ref h13))), (h1, .inl (k0, 512, .inl v_seen_73)), (h2, .inl (k1, 512, .inl v_stack_73))] H_b73 → va_D A [(h0, .inr (12, oX9 v_count (.ref h3) v_positionCount (.ref h4) (.ref h5) (.ref h6) (.ref h7) (.ref h1) v_stamp (.ref h2) v_stackCount_73 v_width (.ref h8) (.ref h9) (.ref h10) (.ref h11) (.ref h12) (.ref h13))), (h1, .inl (k0, 512, .inl v_seen_73)), (h2, .inl (k1, 512, .inl v_stack_73))] → va_S A s.heap H_b73 locs_b73 → lv_has ls_b73 2 [] → W p l e ({ frames := 0, cells := 0, slots := 0, locals := 0 } : Room) s m ([.ref h0, .int p1]).toArray below meth c H_b73 locs_b73 0 0 QQ (F0 m 73 ls_b73 []) := by
    intro v_stackCount_73 v_seen_73 v_stack_73 H_b73 locs_b73 ls_b73 w_b73 hP_b73 hD_b73 hS_b73 hl_b73
    unfold w_X9_push_73 at w_b73
    rw [hQQ]
    exact W.vret hx hb hr (fun t9 ht9 hW9 => ⟨⟨0, rfl, rfl, ⟨v_stackCount_73, v_seen_73, v_stack_73, w_b73, by rw [ht9]; exact hP_b73, hD_b73⟩⟩, hS_b73.F ht9⟩) hS_b73.2.2 dX9_push_73
  refine lv_if_lt (tgt := 73) hx hb dX9_push_1 (by decide) (fun c_1 => ?_) (fun c_1 => ?_)
  · exact k_73 v_stackCount v_seen v_stack _ _ _ (w.1 c_1) hP hD hS (lv_sub hl [] rfl)
  · refine lv_iload_n hx hb dX9_push_4 rfl (lv_at hl 1 rfl) ?_
    refine lv_sipush (v := 512) hx hb dX9_push_5 (by decide) ?_
    refine lv_icmp_ge (tgt := 73) hx hb dX9_push_8 (by decide) (fun c_2 => ?_) (fun c_2 => ?_)
    · exact k_73 v_stackCount v_seen v_stack _ _ _ ((w.2 c_1).1 c_2) hP hD hS (lv_sub hl [] rfl)
    · refine lv_aload_n hx hb dX9_push_11 rfl (lv_at hl 0 rfl) ?_
      refine va_get (D := (dC, dI)) (ci := 12) (v := .ref h1) (C := RX9) (T := TX9) (N := 18) hx hb ht inX9 hown hK hP 0 rfl rfl 7 (by decide) (ht _ tw_709) (fun _ h9 => h9) rfl dX9_push_12 ?_
      refine lv_iload_n hx hb dX9_push_15 rfl (lv_at hl 1 rfl) ?_
      refine va_iald hx hb hK hP 1 0 rfl rfl (i := p1) ((w.2 c_1).2 c_2).1 dX9_push_16 ?_
      refine lv_topi (fun x_3 ex_3 => ?_)
      have ex_3 : x_3 = v_seen p1.toNatClampNeg := ex_3
      refine lv_aload_n hx hb dX9_push_17 rfl (lv_at hl 0 rfl) ?_
      refine va_get (D := (dC, dI)) (ci := 12) (v := .int v_stamp) (C := RX9) (T := TX9) (N := 18) hx hb ht inX9 hown hK hP 0 rfl rfl 8 (by decide) (ht _ tw_710) (fun _ h9 => h9) rfl dX9_push_18 ?_
      refine lv_icmp_eq (tgt := 73) hx hb dX9_push_21 (by decide) (fun c_4 => ?_) (fun c_4 => ?_)
      · exact k_73 v_stackCount v_seen v_stack _ _ _ (((((w.2 c_1).2 c_2).2) x_3 ex_3).1 c_4) hP hD hS (lv_sub hl [] rfl)
      · refine lv_aload_n hx hb dX9_push_24 rfl (lv_at hl 0 rfl) ?_
        refine va_get (D := (dC, dI)) (ci := 12) (v := .int v_stackCount) (C := RX9) (T := TX9) (N := 18) hx hb ht inX9 hown hK hP 0 rfl rfl 10 (by decide) (ht _ tw_712) (fun _ h9 => h9) rfl dX9_push_25 ?_
        refine lv_if_lt (tgt := 73) hx hb dX9_push_28 (by decide) (fun c_5 => ?_) (fun c_5 => ?_)
        · have w_6 := (((((w.2 c_1).2 c_2).2) x_3 ex_3).2 c_4).1 c_5
          exact k_73 v_stackCount v_seen v_stack _ _ _ w_6 hP hD hS (lv_sub hl [] rfl)
        · refine lv_aload_n hx hb dX9_push_31 rfl (lv_at hl 0 rfl) ?_
          refine va_get (D := (dC, dI)) (ci := 12) (v := .int v_stackCount) (C := RX9) (T := TX9) (N := 18) hx hb ht inX9 hown hK hP 0 rfl rfl 10 (by decide) (ht _ tw_712) (fun _ h9 => h9) rfl dX9_push_32 ?_
          refine lv_aload_n hx hb dX9_push_35 rfl (lv_at hl 0 rfl) ?_
          refine va_get (D := (dC, dI)) (ci := 12) (v := .ref h2) (C := RX9) (T := TX9) (N := 18) hx hb ht inX9 hown hK hP 0 rfl rfl 9 (by decide) (ht _ tw_711) (fun _ h9 => h9) rfl dX9_push_36 ?_
          refine va_alen hx hb hK hP 2 1 rfl rfl (v := 512) (show Int32.ofNat 512 = 512 by decide) dX9_push_39 ?_
          have w_7 := (((((w.2 c_1).2 c_2).2) x_3 ex_3).2 c_4).2 c_5
          refine lv_icmp_ge (tgt := 73) hx hb dX9_push_40 (by decide) (fun c_8 => ?_) (fun c_8 => ?_)
          · exact k_73 v_stackCount v_seen v_stack _ _ _ (w_7.1 c_8) hP hD hS (lv_sub hl [] rfl)
          · refine lv_aload_n hx hb dX9_push_43 rfl (lv_at hl 0 rfl) ?_
            refine va_get (D := (dC, dI)) (ci := 12) (v := .ref h1) (C := RX9) (T := TX9) (N := 18) hx hb ht inX9 hown hK hP 0 rfl rfl 7 (by decide) (ht _ tw_709) (fun _ h9 => h9) rfl dX9_push_44 ?_
            refine lv_iload_n hx hb dX9_push_47 rfl (lv_at hl 1 rfl) ?_
            refine lv_aload_n hx hb dX9_push_48 rfl (lv_at hl 0 rfl) ?_
            refine va_get (D := (dC, dI)) (ci := 12) (v := .int v_stamp) (C := RX9) (T := TX9) (N := 18) hx hb ht inX9 hown hK hP 0 rfl rfl 8 (by decide) (ht _ tw_710) (fun _ h9 => h9) rfl dX9_push_49 ?_
            refine va_iast hx hb hK hP hD hS 1 0 rfl rfl (i := p1) (w_7.2 c_8).1 dX9_push_52 (fun H_9 locs_9 hP_9 hD_9 hS_9 => ?_)
            obtain ⟨g_9, hg_9⟩ : ∃ g : Nat → Int32, g = upd v_seen p1.toNatClampNeg v_stamp := ⟨_, rfl⟩
            have hP_9 : va_P (dC, dI) vwCl [(h0, .inr (12, oX9 v_count (.ref h3) v_positionCount (.ref h4) (.ref h5) (.ref h6) (.ref h7) (.ref h1) v_stamp (.ref h2) v_stackCount v_width (.ref h8) (.ref h9) (.ref h10) (.ref h11) (.ref h12) (.ref h13))), (h1, .inl (k0, 512, .inl g_9)), (h2, .inl (k1, 512, .inl v_stack))] H_9 := by rw [hg_9]; exact hP_9
            have hD_9 : va_D A [(h0, .inr (12, oX9 v_count (.ref h3) v_positionCount (.ref h4) (.ref h5) (.ref h6) (.ref h7) (.ref h1) v_stamp (.ref h2) v_stackCount v_width (.ref h8) (.ref h9) (.ref h10) (.ref h11) (.ref h12) (.ref h13))), (h1, .inl (k0, 512, .inl g_9)), (h2, .inl (k1, 512, .inl v_stack))] := by rw [hg_9]; exact hD_9
            refine lv_aload_n hx hb dX9_push_53 rfl (lv_at hl 0 rfl) ?_
            refine va_get (D := (dC, dI)) (ci := 12) (v := .ref h2) (C := RX9) (T := TX9) (N := 18) hx hb ht inX9 hown hK hP_9 0 rfl rfl 9 (by decide) (ht _ tw_711) (fun _ h9 => h9) rfl dX9_push_54 ?_
            refine lv_aload_n hx hb dX9_push_57 rfl (lv_at hl 0 rfl) ?_
            refine va_get (D := (dC, dI)) (ci := 12) (v := .int v_stackCount) (C := RX9) (T := TX9) (N := 18) hx hb ht inX9 hown hK hP_9 0 rfl rfl 10 (by decide) (ht _ tw_712) (fun _ h9 => h9) rfl dX9_push_58 ?_
            refine lv_iload_n hx hb dX9_push_61 rfl (lv_at hl 1 rfl) ?_
            refine va_iast hx hb hK hP_9 hD_9 hS_9 2 1 rfl rfl (i := v_stackCount) (((w_7.2 c_8).2) g_9 hg_9).1 dX9_push_62 (fun H_10 locs_10 hP_10 hD_10 hS_10 => ?_)
            obtain ⟨g_10, hg_10⟩ : ∃ g : Nat → Int32, g = upd v_stack v_stackCount.toNatClampNeg p1 := ⟨_, rfl⟩
            have hP_10 : va_P (dC, dI) vwCl [(h0, .inr (12, oX9 v_count (.ref h3) v_positionCount (.ref h4) (.ref h5) (.ref h6) (.ref h7) (.ref h1) v_stamp (.ref h2) v_stackCount v_width (.ref h8) (.ref h9) (.ref h10) (.ref h11) (.ref h12) (.ref h13))), (h1, .inl (k0, 512, .inl g_9)), (h2, .inl (k1, 512, .inl g_10))] H_10 := by rw [hg_10]; exact hP_10
            have hD_10 : va_D A [(h0, .inr (12, oX9 v_count (.ref h3) v_positionCount (.ref h4) (.ref h5) (.ref h6) (.ref h7) (.ref h1) v_stamp (.ref h2) v_stackCount v_width (.ref h8) (.ref h9) (.ref h10) (.ref h11) (.ref h12) (.ref h13))), (h1, .inl (k0, 512, .inl g_9)), (h2, .inl (k1, 512, .inl g_10))] := by rw [hg_10]; exact hD_10
            refine lv_aload_n hx hb dX9_push_63 rfl (lv_at hl 0 rfl) ?_
            refine lv_dup hx hb dX9_push_64 rfl ?_
            refine va_get (D := (dC, dI)) (ci := 12) (v := .int v_stackCount) (C := RX9) (T := TX9) (N := 18) hx hb ht inX9 hown hK hP_10 0 rfl rfl 10 (by decide) (ht _ tw_712) (fun _ h9 => h9) rfl dX9_push_65 ?_
            refine lv_iconst (v := 1) hx hb dX9_push_68 (by decide) ?_
            refine lv_iadd hx hb dX9_push_69 ?_
            refine lv_topi (fun x_11 ex_11 => ?_)
            have ex_11 : x_11 = v_stackCount + (1 : Int32) := ex_11
            refine va_put (D := (dC, dI)) (ci := 12) (v := .int x_11) (ty := .int) (C := RX9) (T := TX9) (N := 18) hx hb ht inX9 tyX9 tyX9_ok nmX9 hown hK hP_10 hD_10 hS_10 0 rfl rfl 10 (by decide) (ht _ tw_712) (fun _ h9 => h9) rfl (by decide +kernel) rfl rfl (Nat.le_of_ble_eq_true rfl) dX9_push_70 (fun H_12 locs_12 hP_12 hD_12 hS_12 => ?_)
            have hP_12 : va_P (dC, dI) vwCl [(h0, .inr (12, oX9 v_count (.ref h3) v_positionCount (.ref h4) (.ref h5) (.ref h6) (.ref h7) (.ref h1) v_stamp (.ref h2) x_11 v_width (.ref h8) (.ref h9) (.ref h10) (.ref h11) (.ref h12) (.ref h13))), (h1, .inl (k0, 512, .inl g_9)), (h2, .inl (k1, 512, .inl g_10))] H_12 := hP_12
            have hD_12 : va_D A [(h0, .inr (12, oX9 v_count (.ref h3) v_positionCount (.ref h4) (.ref h5) (.ref h6) (.ref h7) (.ref h1) v_stamp (.ref h2) x_11 v_width (.ref h8) (.ref h9) (.ref h10) (.ref h11) (.ref h12) (.ref h13))), (h1, .inl (k0, 512, .inl g_9)), (h2, .inl (k1, 512, .inl g_10))] := hD_12
            have w_13 := (((((w_7.2 c_8).2) g_9 hg_9).2) g_10 hg_10) x_11 ex_11
            exact k_73 x_11 g_9 g_10 _ _ _ w_13 hP_12 hD_12 hS_12 (lv_sub hl [] rfl)
def w_X9_markLive_93 (Q : (Nat → Bool) → Prop) (v_live_93 : Nat → Bool) : Prop :=
  Q  v_live_93
def w_X9_markLive_81 (Q : (Nat → Bool) → Prop) (K31 : Int32 → Int32 → (Nat → Bool) → Prop) (K47 : Int32 → Int32 → (Nat → Bool) → Prop) (l1_81 : Int32) (l3_81 : Int32) (v_live_81 : Nat → Bool) : Prop :=
  ∀ x_12 : Int32, x_12 = l3_81 + 1 → K47 l1_81 x_12 v_live_81
def w_X9_markLive_47B (v_count : Int32) (v_width : Int32) (v_goes : Nat → Int32) (Q : (Nat → Bool) → Prop) (K31 : Int32 → Int32 → (Nat → Bool) → Prop) (K47 : Int32 → Int32 → (Nat → Bool) → Prop) (l2_47 : Int32) (l1_47 : Int32) (l3_47 : Int32) (v_live_47 : Nat → Bool) : Prop :=
  ((v_count ≤ l3_47) → ∀ x_10 : Int32, x_10 = l2_47 + 1 → K31 l1_47 x_10 v_live_47) ∧ ((¬ v_count ≤ l3_47) → vp_in l3_47 60 ∧ ∀ x_11 : Int32, x_11 = bz (v_live_47 l3_47.toNatClampNeg) → ((¬ x_11 = 0) → w_X9_markLive_81 Q K31 K47 l1_47 l3_47 v_live_47) ∧ ((x_11 = 0) → w_X9_leadsToLive l3_47 v_count v_width v_goes v_live_47 (fun r_14 => ((r_14 = 0) → w_X9_markLive_81 Q K31 K47 l1_47 l3_47 v_live_47) ∧ ((¬ r_14 = 0) → vp_in l3_47 60 ∧ ∀ g_16 : Nat → Bool, g_16 = updB v_live_47 l3_47.toNatClampNeg (bo 1) → w_X9_markLive_81 Q K31 K47 1 l3_47 g_16))))
def w_X9_markLive_47 (v_count : Int32) (v_width : Int32) (v_goes : Nat → Int32) (Q : (Nat → Bool) → Prop) (K31 : Int32 → Int32 → (Nat → Bool) → Prop) (l2_47 : Int32) : Nat → Int32 → Int32 → (Nat → Bool) → Prop
  | 0, _, _, _ => False
  | n9 + 1, l1_47, l3_47, v_live_47 => w_X9_markLive_47B v_count v_width v_goes Q K31 (w_X9_markLive_47 v_count v_width v_goes Q K31 l2_47 n9) l2_47 l1_47 l3_47 v_live_47
def w_X9_markLive_31B (v_count : Int32) (v_width : Int32) (v_goes : Nat → Int32) (Q : (Nat → Bool) → Prop) (K31 : Int32 → Int32 → (Nat → Bool) → Prop) (l1_31 : Int32) (l2_31 : Int32) (v_live_31 : Nat → Bool) : Prop :=
  ((l1_31 = 0) → w_X9_markLive_93 Q v_live_31) ∧ ((¬ l1_31 = 0) → ((v_count ≤ l2_31) → w_X9_markLive_93 Q v_live_31) ∧ ((¬ v_count ≤ l2_31) → ∃ k9 : Nat, w_X9_markLive_47 v_count v_width v_goes Q K31 l2_31 k9 0 0 v_live_31))
def w_X9_markLive_31 (v_count : Int32) (v_width : Int32) (v_goes : Nat → Int32) (Q : (Nat → Bool) → Prop) : Nat → Int32 → Int32 → (Nat → Bool) → Prop
  | 0, _, _, _ => False
  | n9 + 1, l1_31, l2_31, v_live_31 => w_X9_markLive_31B v_count v_width v_goes Q (w_X9_markLive_31 v_count v_width v_goes Q n9) l1_31 l2_31 v_live_31
def w_X9_markLive_2B (v_count : Int32) (v_width : Int32) (v_ahead : Nat → Int64) (v_goes : Nat → Int32) (Q : (Nat → Bool) → Prop) (K2 : Int32 → (Nat → Bool) → Prop) (l1_2 : Int32) (v_live_2 : Nat → Bool) : Prop :=
  ((v_count ≤ l1_2) → ∃ k9 : Nat, w_X9_markLive_31 v_count v_width v_goes Q k9 1 0 v_live_2) ∧ ((¬ v_count ≤ l1_2) → w_X9_ends l1_2 v_count v_ahead (fun r_20 => vp_in l1_2 60 ∧ ∀ g_21 : Nat → Bool, g_21 = updB v_live_2 l1_2.toNatClampNeg (bo r_20) → ∀ x_22 : Int32, x_22 = l1_2 + 1 → K2 x_22 g_21))
def w_X9_markLive_2 (v_count : Int32) (v_width : Int32) (v_ahead : Nat → Int64) (v_goes : Nat → Int32) (Q : (Nat → Bool) → Prop) : Nat → Int32 → (Nat → Bool) → Prop
  | 0, _, _ => False
  | n9 + 1, l1_2, v_live_2 => w_X9_markLive_2B v_count v_width v_ahead v_goes Q (w_X9_markLive_2 v_count v_width v_ahead v_goes Q n9) l1_2 v_live_2
def w_X9_markLive (v_count : Int32) (v_width : Int32) (v_ahead : Nat → Int64) (v_goes : Nat → Int32) (v_live : Nat → Bool) (Q : (Nat → Bool) → Prop) : Prop :=
  ∃ k9 : Nat, w_X9_markLive_2 v_count v_width v_ahead v_goes Q k9 0 v_live
set_option maxHeartbeats 4000000 in
set_option maxRecDepth 100000 in
theorem mt_X9_markLive (l : Launch) (dC : Nat → ClassId) (dI : Nat → Nat → Nat) (h0 h1 h2 h3 h4 h5 h6 h7 h8 h9 h10 h11 h12 h13 : Nat) (k0 k1 k2 : ClassId) (v_count : Int32) (v_positionCount : Int32) (v_stamp : Int32) (v_stackCount : Int32) (v_width : Int32) (v_ahead : Nat → Int64) (v_goes : Nat → Int32) (v_live : Nat → Bool) (Q : (Nat → Bool) → Prop) (w : w_X9_markLive v_count v_width v_ahead v_goes v_live Q) (sz : Nat) : Met l yX9_markLive (WS yX9_markLive cX9_markLive 4 none) ({ frames := 2, cells := 0, slots := 0, locals := 46 } : Room) (va_Pc [.ref h0] (fun U => U.heap.size = sz ∧ va_P (dC, dI) vwCl [(h0, .inr (12, oX9 v_count (.ref h4) v_positionCount (.ref h5) (.ref h6) (.ref h7) (.ref h8) (.ref h9) v_stamp (.ref h10) v_stackCount v_width (.ref h11) (.ref h1) (.ref h2) (.ref h3) (.ref h12) (.ref h13))), (h1, .inl (k0, 60, .inr (.inl v_ahead))), (h2, .inl (k1, 15360, .inl v_goes)), (h3, .inl (k2, 60, .inl (fun q9 => bz (v_live q9))))] U.heap ∧ va_K (dC, dI) vwCl [(k0, .long), (k1, .int), (k2, .boolean)] U ∧ va_D (fun _ => True) [(h0, .inr (12, oX9 v_count (.ref h4) v_positionCount (.ref h5) (.ref h6) (.ref h7) (.ref h8) (.ref h9) v_stamp (.ref h10) v_stackCount v_width (.ref h11) (.ref h1) (.ref h2) (.ref h3) (.ref h12) (.ref h13))), (h1, .inl (k0, 60, .inr (.inl v_ahead))), (h2, .inl (k1, 15360, .inl v_goes)), (h3, .inl (k2, 60, .inl (fun q9 => bz (v_live q9))))])) (va_Qv (fun (u : Nat) => u = 0) (fun (_ : Nat) (t : State) => ∃ (ov_live : Nat → Bool), (Q ov_live) ∧ va_P (dC, dI) vwCl [(h0, .inr (12, oX9 v_count (.ref h4) v_positionCount (.ref h5) (.ref h6) (.ref h7) (.ref h8) (.ref h9) v_stamp (.ref h10) v_stackCount v_width (.ref h11) (.ref h1) (.ref h2) (.ref h3) (.ref h12) (.ref h13))), (h1, .inl (k0, 60, .inr (.inl v_ahead))), (h2, .inl (k1, 15360, .inl v_goes)), (h3, .inl (k2, 60, .inl (fun q9 => bz (ov_live q9))))] t.heap ∧ va_D (va_A [(h0, .inr (12, oX9 v_count (.ref h4) v_positionCount (.ref h5) (.ref h6) (.ref h7) (.ref h8) (.ref h9) v_stamp (.ref h10) v_stackCount v_width (.ref h11) (.ref h1) (.ref h2) (.ref h3) (.ref h12) (.ref h13))), (h1, .inl (k0, 60, .inr (.inl v_ahead))), (h2, .inl (k1, 15360, .inl v_goes)), (h3, .inl (k2, 60, .inl (fun q9 => bz (v_live q9))))] sz) [(h0, .inr (12, oX9 v_count (.ref h4) v_positionCount (.ref h5) (.ref h6) (.ref h7) (.ref h8) (.ref h9) v_stamp (.ref h10) v_stackCount v_width (.ref h11) (.ref h1) (.ref h2) (.ref h3) (.ref h12) (.ref h13))), (h1, .inl (k0, 60, .inr (.inl v_ahead))), (h2, .inl (k1, 15360, .inl v_goes)), (h3, .inl (k2, 60, .inl (fun q9 => bz (ov_live q9))))]) (va_A [(h0, .inr (12, oX9 v_count (.ref h4) v_positionCount (.ref h5) (.ref h6) (.ref h7) (.ref h8) (.ref h9) v_stamp (.ref h10) v_stackCount v_width (.ref h11) (.ref h1) (.ref h2) (.ref h3) (.ref h12) (.ref h13))), (h1, .inl (k0, 60, .inr (.inl v_ahead))), (h2, .inl (k1, 15360, .inl v_goes)), (h3, .inl (k2, 60, .inl (fun q9 => bz (v_live q9))))] sz)) 0 0 (va_A [(h0, .inr (12, oX9 v_count (.ref h4) v_positionCount (.ref h5) (.ref h6) (.ref h7) (.ref h8) (.ref h9) v_stamp (.ref h10) v_stackCount v_width (.ref h11) (.ref h1) (.ref h2) (.ref h3) (.ref h12) (.ref h13))), (h1, .inl (k0, 60, .inr (.inl v_ahead))), (h2, .inl (k1, 15360, .inl v_goes)), (h3, .inl (k2, 60, .inl (fun q9 => bz (v_live q9))))] sz) := by
  refine Met.ofW (cc := cX9_markLive) (maxL := 4) (ret := none) (by decide) rfl ?_
  intro p e s m args below meth c s₁ B hml hv
  obtain ⟨rfl, hsz, hP, hK, hD0⟩ := hv
  have hx := B.exec
  have hb := B.bytes
  have hr := B.returns
  have hts := atoms_spec (ws := WS yX9_markLive cX9_markLive 4 none) B.pre
  have ht : ∀ w ∈ TW, w.before _ s = true := fun w h => hts w (List.mem_cons_of_mem _ h)
  have hown : s.vm.findClass "PatternWorkshop$Table" = some m.cls := findClass_of_methodNamed B.named
  have hlocks := B.notSynchronized
  subst hsz
  have hD := hD0.self (sz := s.heap.size)
  generalize hAe : va_A [(h0, .inr (12, oX9 v_count (.ref h4) v_positionCount (.ref h5) (.ref h6) (.ref h7) (.ref h8) (.ref h9) v_stamp (.ref h10) v_stackCount v_width (.ref h11) (.ref h1) (.ref h2) (.ref h3) (.ref h12) (.ref h13))), (h1, .inl (k0, 60, .inr (.inl v_ahead))), (h2, .inl (k1, 15360, .inl v_goes)), (h3, .inl (k2, 60, .inl (fun q9 => bz (v_live q9))))] s.heap.size = A at hD ⊢
  have hA : ∀ q : Nat, s.heap.size ≤ q → A q := fun q h => by rw [← hAe]; exact Or.inr h
  have hS : va_S A s.heap s.heap [] := va_S.rf
  have hP : va_P (dC, dI) vwCl [(h0, .inr (12, oX9 v_count (.ref h4) v_positionCount (.ref h5) (.ref h6) (.ref h7) (.ref h8) (.ref h9) v_stamp (.ref h10) v_stackCount v_width (.ref h11) (.ref h1) (.ref h2) (.ref h3) (.ref h12) (.ref h13))), (h1, .inl (k0, 60, .inr (.inl v_ahead))), (h2, .inl (k1, 15360, .inl v_goes)), (h3, .inl (k2, 60, .inl (fun q9 => bz (v_live q9))))] s.heap := hP
  have hl := lv_entry ([.ref h0]) (n := 4) (Nat.le_of_ble_eq_true rfl)
  rw [lg_entry_eq]
  generalize (lg_sl ([.ref h0]) ++ List.replicate (4 - (lg_sl ([.ref h0])).length) Slot.unset).toArray = ls at hl ⊢
  have hl : lv_has ls 4 [(0, .ref h0)] := hl
  clear hD0
  obtain ⟨QQ, hQQ⟩ : ∃ QQ, QQ = MQ below (va_Qv (fun (u : Nat) => u = 0) (fun (_ : Nat) (t : State) => ∃ (ov_live : Nat → Bool), (Q ov_live) ∧ va_P (dC, dI) vwCl [(h0, .inr (12, oX9 v_count (.ref h4) v_positionCount (.ref h5) (.ref h6) (.ref h7) (.ref h8) (.ref h9) v_stamp (.ref h10) v_stackCount v_width (.ref h11) (.ref h1) (.ref h2) (.ref h3) (.ref h12) (.ref h13))), (h1, .inl (k0, 60, .inr (.inl v_ahead))), (h2, .inl (k1, 15360, .inl v_goes)), (h3, .inl (k2, 60, .inl (fun q9 => bz (ov_live q9))))] t.heap ∧ va_D A [(h0, .inr (12, oX9 v_count (.ref h4) v_positionCount (.ref h5) (.ref h6) (.ref h7) (.ref h8) (.ref h9) v_stamp (.ref h10) v_stackCount v_width (.ref h11) (.ref h1) (.ref h2) (.ref h3) (.ref h12) (.ref h13))), (h1, .inl (k0, 60, .inr (.inl v_ahead))), (h2, .inl (k1, 15360, .inl v_goes)), (h3, .inl (k2, 60, .inl (fun q9 => bz (ov_live q9))))]) A) ([.ref h0]).toArray s 0 0 A := ⟨_, rfl⟩
  show W p l e ({ frames := 2, cells := 0, slots := 0, locals := 46 } : Room) s m ([.ref h0]).toArray below meth c s.heap [] 0 0 (MQ below (va_Qv (fun (u : Nat) => u = 0) (fun (_ : Nat) (t : State) => ∃ (ov_live : Nat → Bool), (Q ov_live) ∧ va_P (dC, dI) vwCl [(h0, .inr (12, oX9 v_count (.ref h4) v_positionCount (.ref h5) (.ref h6) (.ref h7) (.ref h8) (.ref h9) v_stamp (.ref h10) v_stackCount v_width (.ref h11) (.ref h1) (.ref h2) (.ref h3) (.ref h12) (.ref h13))), (h1, .inl (k0, 60, .inr (.inl v_ahead))), (h2, .inl (k1, 15360, .inl v_goes)), (h3, .inl (k2, 60, .inl (fun q9 => bz (ov_live q9))))] t.heap ∧ va_D A [(h0, .inr (12, oX9 v_count (.ref h4) v_positionCount (.ref h5) (.ref h6) (.ref h7) (.ref h8) (.ref h9) v_stamp (.ref h10) v_stackCount v_width (.ref h11) (.ref h1) (.ref h2) (.ref h3) (.ref h12) (.ref h13))), (h1, .inl (k0, 60, .inr (.inl v_ahead))), (h2, .inl (k1, 15360, .inl v_goes)), (h3, .inl (k2, 60, .inl (fun q9 => bz (ov_live q9))))]) A) ([.ref h0]).toArray s 0 0 A) (F0 m 0 ls [])
  rw [← hQQ]
  unfold w_X9_markLive at w
  refine lv_iconst (v := 0) hx hb dX9_markLive_0 (by decide) ?_
  refine lv_istore_n (lv' := [(1, .int 0), (0, .ref h0)]) hx hb dX9_markLive_1 rfl hl (by decide) rfl (fun ls_1 hl_1 => ?_)
  clear hl
  have k_2 : ∀ n_2 : Nat, ∀ (l1_2 : Int32) (v_live_2 : Nat → Bool), ∀ (H_b2 : Heap) (locs_b2 : List Loc) (ls_b2 : Array Slot), w_X9_markLive_2 v_count v_width v_ahead v_goes Q n_2 l1_2 v_live_2 → va_P (dC, dI) vwCl [(h0, .inr (12, oX9 v_count (.ref h4) v_positionCount (.ref h5) (.ref h6) (.ref h7) (.ref h8) (.ref h9) v_stamp (.ref h10) v_stackCount v_width (.ref h11) (.ref h1) (.ref h2) (.ref h3) (.ref h12) (.ref h13))), (h1, .inl (k0, 60, .inr (.inl v_ahead))), (h2, .inl (k1, 15360, .inl v_goes)), (h3, .inl (k2, 60, .inl (fun q9 => bz (v_live_2 q9))))] H_b2 → va_D A [(h0, .inr (12, oX9 v_count (.ref h4) v_positionCount (.ref h5) (.ref h6) (.ref h7) (.ref h8) (.ref h9) v_stamp (.ref h10) v_stackCount v_width (.ref h11) (.ref h1) (.ref h2) (.ref h3) (.ref h12) (.ref h13))), (h1, .inl (k0, 60, .inr (.inl v_ahead))), (h2, .inl (k1, 15360, .inl v_goes)), (h3, .inl (k2, 60, .inl (fun q9 => bz (v_live_2 q9))))] → va_S A s.heap H_b2 locs_b2 → lv_has ls_b2 4 [(0, .ref h0), (1, .int l1_2)] → W p l e ({ frames := 2, cells := 0, slots := 0, locals := 46 } : Room) s m ([.ref h0]).toArray below meth c H_b2 locs_b2 0 0 QQ (F0 m 2 ls_b2 []) := by
    intro n_2
    induction n_2 with
    | zero =>
      intro l1_2 v_live_2 H_b2 locs_b2 ls_b2 w_b2 hP_b2 hD_b2 hS_b2 hl_b2
      exact False.elim (by unfold w_X9_markLive_2 at w_b2; exact w_b2)
    | succ n_2 ih_2 =>
      intro l1_2 v_live_2 H_b2 locs_b2 ls_b2 w_b2 hP_b2 hD_b2 hS_b2 hl_b2
      unfold w_X9_markLive_2 at w_b2
      unfold w_X9_markLive_2B at w_b2
      refine lv_iload_n hx hb dX9_markLive_2 rfl (lv_at hl_b2 1 rfl) ?_
      refine lv_aload_n hx hb dX9_markLive_3 rfl (lv_at hl_b2 0 rfl) ?_
      refine va_get (D := (dC, dI)) (ci := 12) (v := .int v_count) (C := RX9) (T := TX9) (N := 18) hx hb ht inX9 hown hK hP_b2 0 rfl rfl 0 (by decide) (ht _ tw_701) (fun _ h9 => h9) rfl dX9_markLive_4 ?_
      refine lv_icmp_ge (tgt := 27) hx hb dX9_markLive_7 (by decide) (fun c_2 => ?_) (fun c_2 => ?_)
      · refine lv_iconst (v := 1) hx hb dX9_markLive_27 (by decide) ?_
        refine lv_istore_n (lv' := [(1, .int 1), (0, .ref h0)]) hx hb dX9_markLive_28 rfl hl_b2 (by decide) rfl (fun ls_3 hl_3 => ?_)
        clear hl_b2
        refine lv_iconst (v := 0) hx hb dX9_markLive_29 (by decide) ?_
        refine lv_istore_n (lv' := [(2, .int 0), (1, .int 1), (0, .ref h0)]) hx hb dX9_markLive_30 rfl hl_3 (by decide) rfl (fun ls_4 hl_4 => ?_)
        clear hl_3
        have k_31 : ∀ n_31 : Nat, ∀ (l1_31 : Int32) (l2_31 : Int32) (v_live_31 : Nat → Bool), ∀ (H_b31 : Heap) (locs_b31 : List Loc) (ls_b31 : Array Slot), w_X9_markLive_31 v_count v_width v_goes Q n_31 l1_31 l2_31 v_live_31 → va_P (dC, dI) vwCl [(h0, .inr (12, oX9 v_count (.ref h4) v_positionCount (.ref h5) (.ref h6) (.ref h7) (.ref h8) (.ref h9) v_stamp (.ref h10) v_stackCount v_width (.ref h11) (.ref h1) (.ref h2) (.ref h3) (.ref h12) (.ref h13))), (h1, .inl (k0, 60, .inr (.inl v_ahead))), (h2, .inl (k1, 15360, .inl v_goes)), (h3, .inl (k2, 60, .inl (fun q9 => bz (v_live_31 q9))))] H_b31 → va_D A [(h0, .inr (12, oX9 v_count (.ref h4) v_positionCount (.ref h5) (.ref h6) (.ref h7) (.ref h8) (.ref h9) v_stamp (.ref h10) v_stackCount v_width (.ref h11) (.ref h1) (.ref h2) (.ref h3) (.ref h12) (.ref h13))), (h1, .inl (k0, 60, .inr (.inl v_ahead))), (h2, .inl (k1, 15360, .inl v_goes)), (h3, .inl (k2, 60, .inl (fun q9 => bz (v_live_31 q9))))] → va_S A s.heap H_b31 locs_b31 → lv_has ls_b31 4 [(0, .ref h0), (1, .int l1_31), (2, .int l2_31)] → W p l e ({ frames := 2, cells := 0, slots := 0, locals := 46 } : Room) s m ([.ref h0]).toArray below meth c H_b31 locs_b31 0 0 QQ (F0 m 31 ls_b31 []) := by
          intro n_31
          induction n_31 with
          | zero =>
            intro l1_31 l2_31 v_live_31 H_b31 locs_b31 ls_b31 w_b31 hP_b31 hD_b31 hS_b31 hl_b31
            exact False.elim (by unfold w_X9_markLive_31 at w_b31; exact w_b31)
          | succ n_31 ih_31 =>
            intro l1_31 l2_31 v_live_31 H_b31 locs_b31 ls_b31 w_b31 hP_b31 hD_b31 hS_b31 hl_b31
            unfold w_X9_markLive_31 at w_b31
            unfold w_X9_markLive_31B at w_b31
            refine lv_iload_n hx hb dX9_markLive_31 rfl (lv_at hl_b31 1 rfl) ?_
            have k_93 : ∀ (v_live_93 : Nat → Bool), ∀ (H_b93 : Heap) (locs_b93 : List Loc) (ls_b93 : Array Slot), w_X9_markLive_93 Q v_live_93 → va_P (dC, dI) vwCl [(h0, .inr (12, oX9 v_count (.ref h4) v_positionCount (.ref h5) (.ref h6) (.ref h7) (.ref h8) (.ref h9) v_stamp (.ref h10) v_stackCount v_width (.ref h11) (.ref h1) (.ref h2) (.ref h3) (.ref h12) (.ref h13))), (h1, .inl (k0, 60, .inr (.inl v_ahead))), (h2, .inl (k1, 15360, .inl v_goes)), (h3, .inl (k2, 60, .inl (fun q9 => bz (v_live_93 q9))))] H_b93 → va_D A [(h0, .inr (12, oX9 v_count (.ref h4) v_positionCount (.ref h5) (.ref h6) (.ref h7) (.ref h8) (.ref h9) v_stamp (.ref h10) v_stackCount v_width (.ref h11) (.ref h1) (.ref h2) (.ref h3) (.ref h12) (.ref h13))), (h1, .inl (k0, 60, .inr (.inl v_ahead))), (h2, .inl (k1, 15360, .inl v_goes)), (h3, .inl (k2, 60, .inl (fun q9 => bz (v_live_93 q9))))] → va_S A s.heap H_b93 locs_b93 → lv_has ls_b93 4 [] → W p l e ({ frames := 2, cells := 0, slots := 0, locals := 46 } : Room) s m ([.ref h0]).toArray below meth c H_b93 locs_b93 0 0 QQ (F0 m 93 ls_b93 []) := by
              intro v_live_93 H_b93 locs_b93 ls_b93 w_b93 hP_b93 hD_b93 hS_b93 hl_b93
              unfold w_X9_markLive_93 at w_b93
              rw [hQQ]
              exact W.vret hx hb hr (fun t9 ht9 hW9 => ⟨⟨0, rfl, rfl, ⟨v_live_93, w_b93, by rw [ht9]; exact hP_b93, hD_b93⟩⟩, hS_b93.F ht9⟩) hS_b93.2.2 dX9_markLive_93
            refine lv_if_eq (tgt := 93) hx hb dX9_markLive_32 (by decide) (fun c_5 => ?_) (fun c_5 => ?_)
            · exact k_93 v_live_31 _ _ _ (w_b31.1 c_5) hP_b31 hD_b31 hS_b31 (lv_sub hl_b31 [] rfl)
            · refine lv_iload_n hx hb dX9_markLive_35 rfl (lv_at hl_b31 2 rfl) ?_
              refine lv_aload_n hx hb dX9_markLive_36 rfl (lv_at hl_b31 0 rfl) ?_
              refine va_get (D := (dC, dI)) (ci := 12) (v := .int v_count) (C := RX9) (T := TX9) (N := 18) hx hb ht inX9 hown hK hP_b31 0 rfl rfl 0 (by decide) (ht _ tw_701) (fun _ h9 => h9) rfl dX9_markLive_37 ?_
              refine lv_icmp_ge (tgt := 93) hx hb dX9_markLive_40 (by decide) (fun c_6 => ?_) (fun c_6 => ?_)
              · exact k_93 v_live_31 _ _ _ ((w_b31.2 c_5).1 c_6) hP_b31 hD_b31 hS_b31 (lv_sub hl_b31 [] rfl)
              · refine lv_iconst (v := 0) hx hb dX9_markLive_43 (by decide) ?_
                refine lv_istore_n (lv' := [(1, .int 0), (0, .ref h0), (2, .int l2_31)]) hx hb dX9_markLive_44 rfl hl_b31 (by decide) rfl (fun ls_7 hl_7 => ?_)
                clear hl_b31
                refine lv_iconst (v := 0) hx hb dX9_markLive_45 (by decide) ?_
                refine lv_istore_n (lv' := [(3, .int 0), (1, .int 0), (0, .ref h0), (2, .int l2_31)]) hx hb dX9_markLive_46 rfl hl_7 (by decide) rfl (fun ls_8 hl_8 => ?_)
                clear hl_7
                have k_47 : ∀ (l2_47 : Int32), ∀ n_47 : Nat, ∀ (l1_47 : Int32) (l3_47 : Int32) (v_live_47 : Nat → Bool), ∀ (H_b47 : Heap) (locs_b47 : List Loc) (ls_b47 : Array Slot), w_X9_markLive_47 v_count v_width v_goes Q (w_X9_markLive_31 v_count v_width v_goes Q n_31) l2_47 n_47 l1_47 l3_47 v_live_47 → va_P (dC, dI) vwCl [(h0, .inr (12, oX9 v_count (.ref h4) v_positionCount (.ref h5) (.ref h6) (.ref h7) (.ref h8) (.ref h9) v_stamp (.ref h10) v_stackCount v_width (.ref h11) (.ref h1) (.ref h2) (.ref h3) (.ref h12) (.ref h13))), (h1, .inl (k0, 60, .inr (.inl v_ahead))), (h2, .inl (k1, 15360, .inl v_goes)), (h3, .inl (k2, 60, .inl (fun q9 => bz (v_live_47 q9))))] H_b47 → va_D A [(h0, .inr (12, oX9 v_count (.ref h4) v_positionCount (.ref h5) (.ref h6) (.ref h7) (.ref h8) (.ref h9) v_stamp (.ref h10) v_stackCount v_width (.ref h11) (.ref h1) (.ref h2) (.ref h3) (.ref h12) (.ref h13))), (h1, .inl (k0, 60, .inr (.inl v_ahead))), (h2, .inl (k1, 15360, .inl v_goes)), (h3, .inl (k2, 60, .inl (fun q9 => bz (v_live_47 q9))))] → va_S A s.heap H_b47 locs_b47 → lv_has ls_b47 4 [(0, .ref h0), (1, .int l1_47), (2, .int l2_47), (3, .int l3_47)] → W p l e ({ frames := 2, cells := 0, slots := 0, locals := 46 } : Room) s m ([.ref h0]).toArray below meth c H_b47 locs_b47 0 0 QQ (F0 m 47 ls_b47 []) := by
                  intro l2_47
                  intro n_47
                  induction n_47 with
                  | zero =>
                    intro l1_47 l3_47 v_live_47 H_b47 locs_b47 ls_b47 w_b47 hP_b47 hD_b47 hS_b47 hl_b47
                    exact False.elim (by unfold w_X9_markLive_47 at w_b47; exact w_b47)
                  | succ n_47 ih_47 =>
                    intro l1_47 l3_47 v_live_47 H_b47 locs_b47 ls_b47 w_b47 hP_b47 hD_b47 hS_b47 hl_b47
                    unfold w_X9_markLive_47 at w_b47
                    unfold w_X9_markLive_47B at w_b47
                    refine lv_iload_n hx hb dX9_markLive_47 rfl (lv_at hl_b47 3 rfl) ?_
                    refine lv_aload_n hx hb dX9_markLive_48 rfl (lv_at hl_b47 0 rfl) ?_
                    refine va_get (D := (dC, dI)) (ci := 12) (v := .int v_count) (C := RX9) (T := TX9) (N := 18) hx hb ht inX9 hown hK hP_b47 0 rfl rfl 0 (by decide) (ht _ tw_701) (fun _ h9 => h9) rfl dX9_markLive_49 ?_
                    refine lv_icmp_ge (tgt := 87) hx hb dX9_markLive_52 (by decide) (fun c_9 => ?_) (fun c_9 => ?_)
                    · obtain ⟨x_10, ex_10⟩ : ∃ y : Int32, y = l2_47 + 1 := ⟨_, rfl⟩
                      refine lv_iinc (v := x_10) (lv' := [(2, .int x_10), (0, .ref h0), (1, .int l1_47), (3, .int l3_47)]) hx hb dX9_markLive_87 hl_b47 (k := 2) rfl ex_10.symm (by decide) rfl (fun ls_10 hl_10 => ?_)
                      refine lv_goto (tgt := 31) hx hb dX9_markLive_90 (by decide) ?_
                      exact ih_31 l1_47 x_10 v_live_47 _ _ _ (w_b47.1 c_9 x_10 ex_10) hP_b47 hD_b47 hS_b47 (lv_sub hl_10 [1, 2, 0] rfl)
                    · refine lv_aload_n hx hb dX9_markLive_55 rfl (lv_at hl_b47 0 rfl) ?_
                      refine va_get (D := (dC, dI)) (ci := 12) (v := .ref h3) (C := RX9) (T := TX9) (N := 18) hx hb ht inX9 hown hK hP_b47 0 rfl rfl 15 (by decide) (ht _ tw_717) (fun _ h9 => h9) rfl dX9_markLive_56 ?_
                      refine lv_iload_n hx hb dX9_markLive_59 rfl (lv_at hl_b47 3 rfl) ?_
                      refine va_zald hx hb hK hP_b47 3 2 rfl rfl (i := l3_47) (w_b47.2 c_9).1 dX9_markLive_60 ?_
                      refine lv_topi (fun x_11 ex_11 => ?_)
                      have ex_11 : x_11 = bz (v_live_47 l3_47.toNatClampNeg) := ex_11
                      have k_81 : ∀ (l1_81 : Int32) (l3_81 : Int32) (v_live_81 : Nat → Bool), ∀ (H_b81 : Heap) (locs_b81 : List Loc) (ls_b81 : Array Slot), w_X9_markLive_81 Q (w_X9_markLive_31 v_count v_width v_goes Q n_31) (w_X9_markLive_47 v_count v_width v_goes Q (w_X9_markLive_31 v_count v_width v_goes Q n_31) l2_47 n_47) l1_81 l3_81 v_live_81 → va_P (dC, dI) vwCl [(h0, .inr (12, oX9 v_count (.ref h4) v_positionCount (.ref h5) (.ref h6) (.ref h7) (.ref h8) (.ref h9) v_stamp (.ref h10) v_stackCount v_width (.ref h11) (.ref h1) (.ref h2) (.ref h3) (.ref h12) (.ref h13))), (h1, .inl (k0, 60, .inr (.inl v_ahead))), (h2, .inl (k1, 15360, .inl v_goes)), (h3, .inl (k2, 60, .inl (fun q9 => bz (v_live_81 q9))))] H_b81 → va_D A [(h0, .inr (12, oX9 v_count (.ref h4) v_positionCount (.ref h5) (.ref h6) (.ref h7) (.ref h8) (.ref h9) v_stamp (.ref h10) v_stackCount v_width (.ref h11) (.ref h1) (.ref h2) (.ref h3) (.ref h12) (.ref h13))), (h1, .inl (k0, 60, .inr (.inl v_ahead))), (h2, .inl (k1, 15360, .inl v_goes)), (h3, .inl (k2, 60, .inl (fun q9 => bz (v_live_81 q9))))] → va_S A s.heap H_b81 locs_b81 → lv_has ls_b81 4 [(0, .ref h0), (1, .int l1_81), (2, .int l2_47), (3, .int l3_81)] → W p l e ({ frames := 2, cells := 0, slots := 0, locals := 46 } : Room) s m ([.ref h0]).toArray below meth c H_b81 locs_b81 0 0 QQ (F0 m 81 ls_b81 []) := by
                        intro l1_81 l3_81 v_live_81 H_b81 locs_b81 ls_b81 w_b81 hP_b81 hD_b81 hS_b81 hl_b81
                        unfold w_X9_markLive_81 at w_b81
                        obtain ⟨x_12, ex_12⟩ : ∃ y : Int32, y = l3_81 + 1 := ⟨_, rfl⟩
                        refine lv_iinc (v := x_12) (lv' := [(3, .int x_12), (0, .ref h0), (1, .int l1_81), (2, .int l2_47)]) hx hb dX9_markLive_81 hl_b81 (k := 3) rfl ex_12.symm (by decide) rfl (fun ls_12 hl_12 => ?_)
                        refine lv_goto (tgt := 47) hx hb dX9_markLive_84 (by decide) ?_
                        exact ih_47 l1_81 x_12 v_live_81 _ _ _ (w_b81 x_12 ex_12) hP_b81 hD_b81 hS_b81 (lv_sub hl_12 [1, 2, 3, 0] rfl)
                      refine lv_if_ne (tgt := 81) hx hb dX9_markLive_61 (by decide) (fun c_13 => ?_) (fun c_13 => ?_)
                      · exact k_81 l1_47 l3_47 v_live_47 _ _ _ ((((w_b47.2 c_9).2) x_11 ex_11).1 c_13) hP_b47 hD_b47 hS_b47 (lv_sub hl_b47 [0, 1, 2, 3] rfl)
                      · refine lv_aload_n hx hb dX9_markLive_64 rfl (lv_at hl_b47 0 rfl) ?_
                        refine lv_iload_n hx hb dX9_markLive_65 rfl (lv_at hl_b47 3 rfl) ?_
                        have hPc_14 := hP_b47.sub (ws' := [(h0, .inr (12, oX9 v_count (.ref h4) v_positionCount (.ref h5) (.ref h6) (.ref h7) (.ref h8) (.ref h9) v_stamp (.ref h10) v_stackCount v_width (.ref h11) (.ref h1) (.ref h2) (.ref h3) (.ref h12) (.ref h13))), (h2, .inl (k1, 15360, .inl v_goes)), (h3, .inl (k2, 60, .inl (fun q9 => bz (v_live_47 q9))))]) [0, 2, 3] rfl
                        have hDc_14 := hD_b47.sub (ws' := [(h0, .inr (12, oX9 v_count (.ref h4) v_positionCount (.ref h5) (.ref h6) (.ref h7) (.ref h8) (.ref h9) v_stamp (.ref h10) v_stackCount v_width (.ref h11) (.ref h1) (.ref h2) (.ref h3) (.ref h12) (.ref h13))), (h2, .inl (k1, 15360, .inl v_goes)), (h3, .inl (k2, 60, .inl (fun q9 => bz (v_live_47 q9))))]) [0, 2, 3] (by decide) rfl
                        have hKc_14 := hK.sub (tys' := [(k1, .int), (k2, .boolean)]) [1, 2] rfl
                        have hFc_14 := va_free (wc := [(h0, .inr (12, oX9 v_count (.ref h4) v_positionCount (.ref h5) (.ref h6) (.ref h7) (.ref h8) (.ref h9) v_stamp (.ref h10) v_stackCount v_width (.ref h11) (.ref h1) (.ref h2) (.ref h3) (.ref h12) (.ref h13))), (h2, .inl (k1, 15360, .inl v_goes)), (h3, .inl (k2, 60, .inl (fun q9 => bz (v_live_47 q9))))]) hD_b47 hS_b47 hA [0, 2, 3] rfl
                        refine va_calli (va_runV (As := [.int l3_47]) (rest := []) ⟨hx, hb, hml, hown, ht⟩ (mt_X9_leadsToLive l dC dI h0 h2 h3 h4 h5 h6 h7 h8 h9 h10 h11 h1 h12 h13 k1 k2 l3_47 v_count v_positionCount v_stamp v_stackCount v_width v_goes v_live_47 _ ((((w_b47.2 c_9).2) x_11 ex_11).2 c_13) H_b47.size) (cwV 1 ht (goodV tw_1895 tw_1897 tw_138 tw_248 gw_X9_leadsToLive) rfl rfl rfl (by decide +kernel) ⟨Nat.le_of_ble_eq_true rfl, Nat.le_of_ble_eq_true rfl⟩) ⟨fun a U g mk q => by obtain ⟨q0, q1, qP, qK, qD⟩ := q; exact ⟨q0, q1, qP, va_K.moved (u := U) (U := U.calling g mk a) (Vm.Alike.refl U.vm) qK, qD⟩, va_recv hKc_14 hPc_14 (ci := 12) (q0 := 0) rfl rfl, fun U hU hW => ⟨rfl, by rw [hU], by rw [hU]; exact hPc_14, va_K.moved hW.alike hKc_14, hDc_14.weaken (fun _ _ _ _ => trivial)⟩⟩ rfl rfl hl_b47.1 rfl (lv_room (Nat.le_of_ble_eq_true rfl)) dX9_markLive_66 ⟨Nat.le_of_ble_eq_true rfl, Nat.le_of_ble_eq_true rfl⟩) hS_b47 (fun q _ h => hFc_14 q h) hFc_14 (fun r_14 u_14 t_14 H_14 locs_14 ht_14 hvm_14 hw_14 hB_14 hz_14 hk_14 hS_14 => ?_)
                        subst hw_14
                        obtain ⟨w_14, hP1_14, hD1_14⟩ := hB_14
                        rw [ht_14] at hP1_14
                        obtain ⟨hP_14, hD_14⟩ := va_join (wr := [(h1, .inl (k0, 60, .inr (.inl v_ahead)))]) (w1 := [(h0, .inr (12, oX9 v_count (.ref h4) v_positionCount (.ref h5) (.ref h6) (.ref h7) (.ref h8) (.ref h9) v_stamp (.ref h10) v_stackCount v_width (.ref h11) (.ref h1) (.ref h2) (.ref h3) (.ref h12) (.ref h13))), (h2, .inl (k1, 15360, .inl v_goes)), (h3, .inl (k2, 60, .inl (fun q9 => bz (v_live_47 q9))))]) hP_b47 hD_b47 [0, 2, 3] [1] rfl rfl (by decide) (by decide) hk_14 hFc_14 hP1_14 hD1_14
                        have hP_14 := hP_14.sub (ws' := [(h0, .inr (12, oX9 v_count (.ref h4) v_positionCount (.ref h5) (.ref h6) (.ref h7) (.ref h8) (.ref h9) v_stamp (.ref h10) v_stackCount v_width (.ref h11) (.ref h1) (.ref h2) (.ref h3) (.ref h12) (.ref h13))), (h1, .inl (k0, 60, .inr (.inl v_ahead))), (h2, .inl (k1, 15360, .inl v_goes)), (h3, .inl (k2, 60, .inl (fun q9 => bz (v_live_47 q9))))]) [1, 0, 2, 3] rfl
                        have hD_14 := hD_14.sub (ws' := [(h0, .inr (12, oX9 v_count (.ref h4) v_positionCount (.ref h5) (.ref h6) (.ref h7) (.ref h8) (.ref h9) v_stamp (.ref h10) v_stackCount v_width (.ref h11) (.ref h1) (.ref h2) (.ref h3) (.ref h12) (.ref h13))), (h1, .inl (k0, 60, .inr (.inl v_ahead))), (h2, .inl (k1, 15360, .inl v_goes)), (h3, .inl (k2, 60, .inl (fun q9 => bz (v_live_47 q9))))]) [1, 0, 2, 3] (by decide) rfl
                        clear hPc_14 hDc_14 hKc_14 hFc_14 hP1_14 hD1_14 hk_14 hz_14
                        refine lv_if_eq (tgt := 81) hx hb dX9_markLive_69 (by decide) (fun c_15 => ?_) (fun c_15 => ?_)
                        · exact k_81 l1_47 l3_47 v_live_47 _ _ _ (w_14.1 c_15) hP_14 hD_14 hS_14 (lv_sub hl_b47 [0, 1, 2, 3] rfl)
                        · refine lv_aload_n hx hb dX9_markLive_72 rfl (lv_at hl_b47 0 rfl) ?_
                          refine va_get (D := (dC, dI)) (ci := 12) (v := .ref h3) (C := RX9) (T := TX9) (N := 18) hx hb ht inX9 hown hK hP_14 0 rfl rfl 15 (by decide) (ht _ tw_717) (fun _ h9 => h9) rfl dX9_markLive_73 ?_
                          refine lv_iload_n hx hb dX9_markLive_76 rfl (lv_at hl_b47 3 rfl) ?_
                          refine lv_iconst (v := 1) hx hb dX9_markLive_77 (by decide) ?_
                          refine va_zast hx hb hK hP_14 hD_14 hS_14 3 2 rfl rfl (i := l3_47) (w_14.2 c_15).1 dX9_markLive_78 (fun H_16 locs_16 hP_16 hD_16 hS_16 => ?_)
                          obtain ⟨g_16, hg_16⟩ : ∃ g : Nat → Bool, g = updB v_live_47 l3_47.toNatClampNeg (bo 1) := ⟨_, rfl⟩
                          rw [zupd] at hP_16 hD_16
                          have hP_16 : va_P (dC, dI) vwCl [(h0, .inr (12, oX9 v_count (.ref h4) v_positionCount (.ref h5) (.ref h6) (.ref h7) (.ref h8) (.ref h9) v_stamp (.ref h10) v_stackCount v_width (.ref h11) (.ref h1) (.ref h2) (.ref h3) (.ref h12) (.ref h13))), (h1, .inl (k0, 60, .inr (.inl v_ahead))), (h2, .inl (k1, 15360, .inl v_goes)), (h3, .inl (k2, 60, .inl (fun q9 => bz (g_16 q9))))] H_16 := by rw [hg_16]; exact hP_16
                          have hD_16 : va_D A [(h0, .inr (12, oX9 v_count (.ref h4) v_positionCount (.ref h5) (.ref h6) (.ref h7) (.ref h8) (.ref h9) v_stamp (.ref h10) v_stackCount v_width (.ref h11) (.ref h1) (.ref h2) (.ref h3) (.ref h12) (.ref h13))), (h1, .inl (k0, 60, .inr (.inl v_ahead))), (h2, .inl (k1, 15360, .inl v_goes)), (h3, .inl (k2, 60, .inl (fun q9 => bz (g_16 q9))))] := by rw [hg_16]; exact hD_16
                          refine lv_iconst (v := 1) hx hb dX9_markLive_79 (by decide) ?_
                          refine lv_istore_n (lv' := [(1, .int 1), (0, .ref h0), (2, .int l2_47), (3, .int l3_47)]) hx hb dX9_markLive_80 rfl hl_b47 (by decide) rfl (fun ls_17 hl_17 => ?_)
                          clear hl_b47
                          exact k_81 1 l3_47 g_16 _ _ _ (((w_14.2 c_15).2) g_16 hg_16) hP_16 hD_16 hS_16 (lv_sub hl_17 [1, 0, 2, 3] rfl)
                obtain ⟨n_18, w_18⟩ := (w_b31.2 c_5).2 c_6
                exact k_47 l2_31 n_18 0 0 v_live_31 _ _ _ w_18 hP_b31 hD_b31 hS_b31 (lv_sub hl_8 [2, 1, 3, 0] rfl)
        obtain ⟨n_19, w_19⟩ := w_b2.1 c_2
        exact k_31 n_19 1 0 v_live_2 _ _ _ w_19 hP_b2 hD_b2 hS_b2 (lv_sub hl_4 [2, 1, 0] rfl)
      · refine lv_aload_n hx hb dX9_markLive_10 rfl (lv_at hl_b2 0 rfl) ?_
        refine va_get (D := (dC, dI)) (ci := 12) (v := .ref h3) (C := RX9) (T := TX9) (N := 18) hx hb ht inX9 hown hK hP_b2 0 rfl rfl 15 (by decide) (ht _ tw_717) (fun _ h9 => h9) rfl dX9_markLive_11 ?_
        refine lv_iload_n hx hb dX9_markLive_14 rfl (lv_at hl_b2 1 rfl) ?_
        refine lv_aload_n hx hb dX9_markLive_15 rfl (lv_at hl_b2 0 rfl) ?_
        refine lv_iload_n hx hb dX9_markLive_16 rfl (lv_at hl_b2 1 rfl) ?_
        have hPc_20 := hP_b2.sub (ws' := [(h0, .inr (12, oX9 v_count (.ref h4) v_positionCount (.ref h5) (.ref h6) (.ref h7) (.ref h8) (.ref h9) v_stamp (.ref h10) v_stackCount v_width (.ref h11) (.ref h1) (.ref h2) (.ref h3) (.ref h12) (.ref h13))), (h1, .inl (k0, 60, .inr (.inl v_ahead)))]) [0, 1] rfl
        have hDc_20 := hD_b2.sub (ws' := [(h0, .inr (12, oX9 v_count (.ref h4) v_positionCount (.ref h5) (.ref h6) (.ref h7) (.ref h8) (.ref h9) v_stamp (.ref h10) v_stackCount v_width (.ref h11) (.ref h1) (.ref h2) (.ref h3) (.ref h12) (.ref h13))), (h1, .inl (k0, 60, .inr (.inl v_ahead)))]) [0, 1] (by decide) rfl
        have hKc_20 := hK.sub (tys' := [(k0, .long)]) [0] rfl
        have hFc_20 := va_free (wc := [(h0, .inr (12, oX9 v_count (.ref h4) v_positionCount (.ref h5) (.ref h6) (.ref h7) (.ref h8) (.ref h9) v_stamp (.ref h10) v_stackCount v_width (.ref h11) (.ref h1) (.ref h2) (.ref h3) (.ref h12) (.ref h13))), (h1, .inl (k0, 60, .inr (.inl v_ahead)))]) hD_b2 hS_b2 hA [0, 1] rfl
        refine va_calli (va_runV (As := [.int l1_2]) (rest := [.int l1_2, .ref h3]) ⟨hx, hb, hml, hown, ht⟩ (mt_X9_ends l dC dI h0 h1 h4 h5 h6 h7 h8 h9 h10 h11 h2 h3 h12 h13 k0 l1_2 v_count v_positionCount v_stamp v_stackCount v_width v_ahead _ (w_b2.2 c_2) H_b2.size) (cwV 1 ht (goodV tw_1891 tw_1892 tw_1893 tw_248 gw_X9_ends) rfl rfl rfl (by decide +kernel) ⟨Nat.le_of_ble_eq_true rfl, Nat.le_of_ble_eq_true rfl⟩) ⟨fun a U g mk q => by obtain ⟨q0, q1, qP, qK, qD⟩ := q; exact ⟨q0, q1, qP, va_K.moved (u := U) (U := U.calling g mk a) (Vm.Alike.refl U.vm) qK, qD⟩, va_recv hKc_20 hPc_20 (ci := 12) (q0 := 0) rfl rfl, fun U hU hW => ⟨rfl, by rw [hU], by rw [hU]; exact hPc_20, va_K.moved hW.alike hKc_20, hDc_20.weaken (fun _ _ _ _ => trivial)⟩⟩ rfl rfl hl_b2.1 rfl (lv_room (Nat.le_of_ble_eq_true rfl)) dX9_markLive_17 ⟨Nat.le_of_ble_eq_true rfl, Nat.le_of_ble_eq_true rfl⟩) hS_b2 (fun q _ h => hFc_20 q h) hFc_20 (fun r_20 u_20 t_20 H_20 locs_20 ht_20 hvm_20 hw_20 hB_20 hz_20 hk_20 hS_20 => ?_)
        subst hw_20
        obtain ⟨w_20, hP1_20, hD1_20⟩ := hB_20
        rw [ht_20] at hP1_20
        obtain ⟨hP_20, hD_20⟩ := va_join (wr := [(h2, .inl (k1, 15360, .inl v_goes)), (h3, .inl (k2, 60, .inl (fun q9 => bz (v_live_2 q9))))]) (w1 := [(h0, .inr (12, oX9 v_count (.ref h4) v_positionCount (.ref h5) (.ref h6) (.ref h7) (.ref h8) (.ref h9) v_stamp (.ref h10) v_stackCount v_width (.ref h11) (.ref h1) (.ref h2) (.ref h3) (.ref h12) (.ref h13))), (h1, .inl (k0, 60, .inr (.inl v_ahead)))]) hP_b2 hD_b2 [0, 1] [2, 3] rfl rfl (by decide) (by decide) hk_20 hFc_20 hP1_20 hD1_20
        have hP_20 := hP_20.sub (ws' := [(h0, .inr (12, oX9 v_count (.ref h4) v_positionCount (.ref h5) (.ref h6) (.ref h7) (.ref h8) (.ref h9) v_stamp (.ref h10) v_stackCount v_width (.ref h11) (.ref h1) (.ref h2) (.ref h3) (.ref h12) (.ref h13))), (h1, .inl (k0, 60, .inr (.inl v_ahead))), (h2, .inl (k1, 15360, .inl v_goes)), (h3, .inl (k2, 60, .inl (fun q9 => bz (v_live_2 q9))))]) [2, 3, 0, 1] rfl
        have hD_20 := hD_20.sub (ws' := [(h0, .inr (12, oX9 v_count (.ref h4) v_positionCount (.ref h5) (.ref h6) (.ref h7) (.ref h8) (.ref h9) v_stamp (.ref h10) v_stackCount v_width (.ref h11) (.ref h1) (.ref h2) (.ref h3) (.ref h12) (.ref h13))), (h1, .inl (k0, 60, .inr (.inl v_ahead))), (h2, .inl (k1, 15360, .inl v_goes)), (h3, .inl (k2, 60, .inl (fun q9 => bz (v_live_2 q9))))]) [2, 3, 0, 1] (by decide) rfl
        clear hPc_20 hDc_20 hKc_20 hFc_20 hP1_20 hD1_20 hk_20 hz_20
        refine va_zast hx hb hK hP_20 hD_20 hS_20 3 2 rfl rfl (i := l1_2) w_20.1 dX9_markLive_20 (fun H_21 locs_21 hP_21 hD_21 hS_21 => ?_)
        obtain ⟨g_21, hg_21⟩ : ∃ g : Nat → Bool, g = updB v_live_2 l1_2.toNatClampNeg (bo r_20) := ⟨_, rfl⟩
        rw [zupd] at hP_21 hD_21
        have hP_21 : va_P (dC, dI) vwCl [(h0, .inr (12, oX9 v_count (.ref h4) v_positionCount (.ref h5) (.ref h6) (.ref h7) (.ref h8) (.ref h9) v_stamp (.ref h10) v_stackCount v_width (.ref h11) (.ref h1) (.ref h2) (.ref h3) (.ref h12) (.ref h13))), (h1, .inl (k0, 60, .inr (.inl v_ahead))), (h2, .inl (k1, 15360, .inl v_goes)), (h3, .inl (k2, 60, .inl (fun q9 => bz (g_21 q9))))] H_21 := by rw [hg_21]; exact hP_21
        have hD_21 : va_D A [(h0, .inr (12, oX9 v_count (.ref h4) v_positionCount (.ref h5) (.ref h6) (.ref h7) (.ref h8) (.ref h9) v_stamp (.ref h10) v_stackCount v_width (.ref h11) (.ref h1) (.ref h2) (.ref h3) (.ref h12) (.ref h13))), (h1, .inl (k0, 60, .inr (.inl v_ahead))), (h2, .inl (k1, 15360, .inl v_goes)), (h3, .inl (k2, 60, .inl (fun q9 => bz (g_21 q9))))] := by rw [hg_21]; exact hD_21
        obtain ⟨x_22, ex_22⟩ : ∃ y : Int32, y = l1_2 + 1 := ⟨_, rfl⟩
        refine lv_iinc (v := x_22) (lv' := [(1, .int x_22), (0, .ref h0)]) hx hb dX9_markLive_21 hl_b2 (k := 1) rfl ex_22.symm (by decide) rfl (fun ls_22 hl_22 => ?_)
        refine lv_goto (tgt := 2) hx hb dX9_markLive_24 (by decide) ?_
        exact ih_2 x_22 g_21 _ _ _ (w_20.2 g_21 hg_21 x_22 ex_22) hP_21 hD_21 hS_21 (lv_sub hl_22 [1, 0] rfl)
  obtain ⟨n_23, w_23⟩ := w
  exact k_2 n_23 0 v_live _ _ _ w_23 hP hD hS (lv_sub hl_1 [1, 0] rfl)
