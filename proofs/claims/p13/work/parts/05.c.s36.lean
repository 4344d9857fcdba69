def w_X3_tell_36 (Q : Int32 → Bool → (Nat → Int32) → Prop) (a1_count_36 : Int32) (a1_over_36 : Bool) (a1_items_36 : Nat → Int32) : Prop :=
  Q  a1_count_36 a1_over_36 a1_items_36
def w_X3_tell_6B (na1_items : Nat) (v_width : Int32) (v_cells : Nat → Int32) (Q : Int32 → Bool → (Nat → Int32) → Prop) (K6 : Int32 → Int32 → Bool → (Nat → Int32) → Prop) (l2_6 : Int32) (a1_count_6 : Int32) (a1_over_6 : Bool) (a1_items_6 : Nat → Int32) : Prop :=
  ((v_width ≤ l2_6) → w_X3_tell_36 Q a1_count_6 a1_over_6 a1_items_6) ∧ ((¬ v_width ≤ l2_6) → ((20 ≤ l2_6) → w_X3_tell_36 Q a1_count_6 a1_over_6 a1_items_6) ∧ ((¬ 20 ≤ l2_6) → vp_in l2_6 20 ∧ ∀ x_5 : Int32, x_5 = v_cells l2_6.toNatClampNeg → w_X7_add x_5 a1_count_6 a1_over_6 a1_items_6 na1_items (fun r_6_0 r_6_1 r_6_2 => ∀ x_7 : Int32, x_7 = l2_6 + 1 → K6 x_7 r_6_0 r_6_1 r_6_2)))
def w_X3_tell_6 (na1_items : Nat) (v_width : Int32) (v_cells : Nat → Int32) (Q : Int32 → Bool → (Nat → Int32) → Prop) : Nat → Int32 → Int32 → Bool → (Nat → Int32) → Prop
  | 0, _, _, _, _ => False
  | n9 + 1, l2_6, a1_count_6, a1_over_6, a1_items_6 => w_X3_tell_6B na1_items v_width v_cells Q (w_X3_tell_6 na1_items v_width v_cells Q n9) l2_6 a1_count_6 a1_over_6 a1_items_6
def w_X3_tell (a1_items : Nat → Int32) (na1_items : Nat) (v_width : Int32) (v_cells : Nat → Int32) (Q : Int32 → Bool → (Nat → Int32) → Prop) : Prop :=
  w_X7_empty  (fun r_1_0 r_1_1 => ∃ k9 : Nat, w_X3_tell_6 na1_items v_width v_cells Q k9 0 r_1_0 r_1_1 a1_items)
set_option maxHeartbeats 4000000 in
set_option maxRecDepth 100000 in
theorem mt_X3_tell (l : Launch) (dC : Nat → ClassId) (dI : Nat → Nat → Nat) (h0 h1 h2 h3 h4 h5 h6 h7 h8 h9 h10 h11 h12 h13 h14 : Nat) (k0 k1 : ClassId) (a1_count : Int32) (a1_over : Bool) (a1_there : Bool) (a1_items : Nat → Int32) (na1_items : Nat) (v_width : Int32) (v_nowCount : Int32) (v_nextCount : Int32) (v_stamp : Int32) (v_stackCount : Int32) (v_cells : Nat → Int32) (Q : Int32 → Bool → (Nat → Int32) → Prop) (w : w_X3_tell a1_items na1_items v_width v_cells Q) (sz : Nat) : Met l yX3_tell (WS yX3_tell cX3_tell 3 none) ({ frames := 1, cells := 0, slots := 0, locals := 21 } : Room) (va_Pc [.ref h0, .ref h1] (fun U => U.heap.size = sz ∧ va_P (dC, dI) vwCl [(h1, .inr (10, oX7 (.ref h2) a1_count a1_over a1_there)), (h2, .inl (k0, na1_items, .inl a1_items)), (h0, .inr (6, oX3 (.ref h4) (.ref h5) v_width (.ref h6) (.ref h7) (.ref h8) v_nowCount (.ref h9) (.ref h10) v_nextCount (.ref h11) (.ref h12) v_stamp (.ref h3) (.ref h13) (.ref h14) v_stackCount)), (h3, .inl (k1, 20, .inl v_cells))] U.heap ∧ va_K (dC, dI) vwCl [(k0, .int), (k1, .int)] U ∧ va_D (fun _ => True) [(h1, .inr (10, oX7 (.ref h2) a1_count a1_over a1_there)), (h2, .inl (k0, na1_items, .inl a1_items)), (h0, .inr (6, oX3 (.ref h4) (.ref h5) v_width (.ref h6) (.ref h7) (.ref h8) v_nowCount (.ref h9) (.ref h10) v_nextCount (.ref h11) (.ref h12) v_stamp (.ref h3) (.ref h13) (.ref h14) v_stackCount)), (h3, .inl (k1, 20, .inl v_cells))])) (va_Qv (fun (u : Nat) => u = 0) (fun (_ : Nat) (t : State) => ∃ (oa1_count : Int32), ∃ (oa1_over : Bool), ∃ (oa1_items : Nat → Int32), (Q oa1_count oa1_over oa1_items) ∧ va_P (dC, dI) vwCl [(h1, .inr (10, oX7 (.ref h2) oa1_count oa1_over a1_there)), (h2, .inl (k0, na1_items, .inl oa1_items)), (h0, .inr (6, oX3 (.ref h4) (.ref h5) v_width (.ref h6) (.ref h7) (.ref h8) v_nowCount (.ref h9) (.ref h10) v_nextCount (.ref h11) (.ref h12) v_stamp (.ref h3) (.ref h13) (.ref h14) v_stackCount)), (h3, .inl (k1, 20, .inl v_cells))] t.heap ∧ va_D (va_A [(h1, .inr (10, oX7 (.ref h2) a1_count a1_over a1_there)), (h2, .inl (k0, na1_items, .inl a1_items)), (h0, .inr (6, oX3 (.ref h4) (.ref h5) v_width (.ref h6) (.ref h7) (.ref h8) v_nowCount (.ref h9) (.ref h10) v_nextCount (.ref h11) (.ref h12) v_stamp (.ref h3) (.ref h13) (.ref h14) v_stackCount)), (h3, .inl (k1, 20, .inl v_cells))] sz) [(h1, .inr (10, oX7 (.ref h2) oa1_count oa1_over a1_there)), (h2, .inl (k0, na1_items, .inl oa1_items)), (h0, .inr (6, oX3 (.ref h4) (.ref h5) v_width (.ref h6) (.ref h7) (.ref h8) v_nowCount (.ref h9) (.ref h10) v_nextCount (.ref h11) (.ref h12) v_stamp (.ref h3) (.ref h13) (.ref h14) v_stackCount)), (h3, .inl (k1, 20, .inl v_cells))]) (va_A [(h1, .inr (10, oX7 (.ref h2) a1_count a1_over a1_there)), (h2, .inl (k0, na1_items, .inl a1_items)), (h0, .inr (6, oX3 (.ref h4) (.ref h5) v_width (.ref h6) (.ref h7) (.ref h8) v_nowCount (.ref h9) (.ref h10) v_nextCount (.ref h11) (.ref h12) v_stamp (.ref h3) (.ref h13) (.ref h14) v_stackCount)), (h3, .inl (k1, 20, .inl v_cells))] sz)) 0 0 (va_A [(h1, .inr (10, oX7 (.ref h2) a1_count a1_over a1_there)), (h2, .inl (k0, na1_items, .inl a1_items)), (h0, .inr (6, oX3 (.ref h4) (.ref h5) v_width (.ref h6) (.ref h7) (.ref h8) v_nowCount (.ref h9) (.ref h10) v_nextCount (.ref h11) (.ref h12) v_stamp (.ref h3) (.ref h13) (.ref h14) v_stackCount)), (h3, .inl (k1, 20, .inl v_cells))] sz) := by
  refine Met.ofW (cc := cX3_tell) (maxL := 3) (ret := none) (by decide) rfl ?_
  intro p e s m args below meth c s₁ B hml hv
  obtain ⟨rfl, hsz, hP, hK, hD0⟩ := hv
  have hx := B.exec
  have hb := B.bytes
  have hr := B.returns
  have hts := atoms_spec (ws := WS yX3_tell cX3_tell 3 none) B.pre
  have ht : ∀ w ∈ TW, w.before _ s = true := fun w h => hts w (List.mem_cons_of_mem _ h)
  have hown : s.vm.findClass "PatternWorkshop$Parallel" = some m.cls := findClass_of_methodNamed B.named
  have hlocks := B.notSynchronized
  subst hsz
  have hD := hD0.self (sz := s.heap.size)
  generalize hAe : va_A [(h1, .inr (10, oX7 (.ref h2) a1_count a1_over a1_there)), (h2, .inl (k0, na1_items, .inl a1_items)), (h0, .inr (6, oX3 (.ref h4) (.ref h5) v_width (.ref h6) (.ref h7) (.ref h8) v_nowCount (.ref h9) (.ref h10) v_nextCount (.ref h11) (.ref h12) v_stamp (.ref h3) (.ref h13) (.ref h14) v_stackCount)), (h3, .inl (k1, 20, .inl v_cells))] s.heap.size = A at hD ⊢
  have hA : ∀ q : Nat, s.heap.size ≤ q → A q := fun q h => by rw [← hAe]; exact Or.inr h
  have hS : va_S A s.heap s.heap [] := va_S.rf
  have hP : va_P (dC, dI) vwCl [(h1, .inr (10, oX7 (.ref h2) a1_count a1_over a1_there)), (h2, .inl (k0, na1_items, .inl a1_items)), (h0, .inr (6, oX3 (.ref h4) (.ref h5) v_width (.ref h6) (.ref h7) (.ref h8) v_nowCount (.ref h9) (.ref h10) v_nextCount (.ref h11) (.ref h12) v_stamp (.ref h3) (.ref h13) (.ref h14) v_stackCount)), (h3, .inl (k1, 20, .inl v_cells))] s.heap := hP
  have hl := lv_entry ([.ref h0, .ref h1]) (n := 3) (Nat.le_of_ble_eq_true rfl)
  rw [lg_entry_eq]
  generalize (lg_sl ([.ref h0, .ref h1]) ++ List.replicate (3 - (lg_sl ([.ref h0, .ref h1])).length) Slot.unset).toArray = ls at hl ⊢
  have hl : lv_has ls 3 [(0, .ref h0), (1, .ref h1)] := hl
  clear hD0
  obtain ⟨QQ, hQQ⟩ : ∃ QQ, QQ = MQ below (va_Qv (fun (u : Nat) => u = 0) (fun (_ : Nat) (t : State) => ∃ (oa1_count : Int32), ∃ (oa1_over : Bool), ∃ (oa1_items : Nat → Int32), (Q oa1_count oa1_over oa1_items) ∧ va_P (dC, dI) vwCl [(h1, .inr (10, oX7 (.ref h2) oa1_count oa1_over a1_there)), (h2, .inl (k0, na1_items, .inl oa1_items)), (h0, .inr (6, oX3 (.ref h4) (.ref h5) v_width (.ref h6) (.ref h7) (.ref h8) v_nowCount (.ref h9) (.ref h10) v_nextCount (.ref h11) (.ref h12) v_stamp (.ref h3) (.ref h13) (.ref h14) v_stackCount)), (h3, .inl (k1, 20, .inl v_cells))] t.heap ∧ va_D A [(h1, .inr (10, oX7 (.ref h2) oa1_count oa1_over a1_there)), (h2, .inl (k0, na1_items, .inl oa1_items)), (h0, .inr (6, oX3 (.ref h4) (.ref h5) v_width (.ref h6) (.ref h7) (.ref h8) v_nowCount (.ref h9) (.ref h10) v_nextCount (.ref h11) (.ref h12) v_stamp (.ref h3) (.ref h13) (.ref h14) v_stackCount)), (h3, .inl (k1, 20, .inl v_cells))]) A) ([.ref h0, .ref h1]).toArray s 0 0 A := ⟨_, rfl⟩
  show W p l e ({ frames := 1, cells := 0, slots := 0, locals := 21 } : Room) s m ([.ref h0, .ref h1]).toArray below meth c s.heap [] 0 0 (MQ below (va_Qv (fun (u : Nat) => u = 0) (fun (_ : Nat) (t : State) => ∃ (oa1_count : Int32), ∃ (oa1_over : Bool), ∃ (oa1_items : Nat → Int32), (Q oa1_count oa1_over oa1_items) ∧ va_P (dC, dI) vwCl [(h1, .inr (10, oX7 (.ref h2) oa1_count oa1_over a1_there)), (h2, .inl (k0, na1_items, .inl oa1_items)), (h0, .inr (6, oX3 (.ref h4) (.ref h5) v_width (.ref h6) (.ref h7) (.ref h8) v_nowCount (.ref h9) (.ref h10) v_nextCount (.ref h11) (.ref h12) v_stamp (.ref h3) (.ref h13) (.ref h14) v_stackCount)), (h3, .inl (k1, 20, .inl v_cells))] t.heap ∧ va_D A [(h1, .inr (10, oX7 (.ref h2) oa1_count oa1_over a1_there)), (h2, .inl (k0, na1_items, .inl oa1_items)), (h0, .inr (6, oX3 (.ref h4) (.ref h5) v_width (.ref h6) (.ref h7) (.ref h8) v_nowCount (.ref h9) (.ref h10) v_nextCount (.ref h11) (.ref h12) v_stamp (.ref h3) (.ref h13) (.ref h14) v_stackCount)), (h3, .inl (k1, 20, .inl v_cells))]) A) ([.ref h0, .ref h1]).toArray s 0 0 A) (F0 m 0 ls [])
  rw [← hQQ]
  unfold w_X3_tell at w
  refine lv_aload_n hx hb dX3_tell_0 rfl (lv_at hl 1 rfl) ?_
  have hPc_1 := hP.sub (ws' := [(h1, .inr (10, oX7 (.ref h2) a1_count a1_over a1_there))]) [0] rfl
  have hDc_1 := hD.sub (ws' := [(h1, .inr (10, oX7 (.ref h2) a1_count a1_over a1_there))]) [0] (by decide) rfl
  have hKc_1 := hK.sub (tys' := []) [] rfl
  have hFc_1 := va_free (wc := [(h1, .inr (10, oX7 (.ref h2) a1_count a1_over a1_there))]) hD hS hA [0] rfl
  refine va_callv (va_runV (As := []) (rest := []) ⟨hx, hb, hml, hown, ht⟩ (mt_X7_empty l dC dI h1 h2 a1_count a1_over a1_there _ w s.heap.size) (cwV 0 ht (goodV tw_1578 tw_1125 tw_1126 tw_237 gw_X7_empty) rfl rfl rfl (by decide +kernel) ⟨Nat.le_of_ble_eq_true rfl, Nat.le_of_ble_eq_true rfl⟩) ⟨fun a U g mk q => by obtain ⟨q0, q1, qP, qK, qD⟩ := q; exact ⟨q0, q1, qP, va_K.moved (u := U) (U := U.calling g mk a) (Vm.Alike.refl U.vm) qK, qD⟩, va_recv hKc_1 hPc_1 (ci := 10) (q0 := 0) rfl rfl, fun U hU hW => ⟨rfl, by rw [hU], by rw [hU]; exact hPc_1, va_K.moved hW.alike hKc_1, hDc_1.weaken (fun _ _ _ _ => trivial)⟩⟩ rfl rfl hl.1 rfl (lv_room (Nat.le_of_ble_eq_true rfl)) dX3_tell_1 ⟨Nat.le_of_ble_eq_true rfl, Nat.le_of_ble_eq_true rfl⟩) hS (fun q _ h => hFc_1 q h) hFc_1 (fun u_1 t_1 H_1 locs_1 ht_1 hvm_1 hw_1 hB_1 hz_1 hk_1 hS_1 => ?_)
  subst hw_1
  obtain ⟨r_1_0, r_1_1, w_1, hP1_1, hD1_1⟩ := hB_1
  rw [ht_1] at hP1_1
  obtain ⟨hP_1, hD_1⟩ := va_join (wr := [(h2, .inl (k0, na1_items, .inl a1_items)), (h0, .inr (6, oX3 (.ref h4) (.ref h5) v_width (.ref h6) (.ref h7) (.ref h8) v_nowCount (.ref h9) (.ref h10) v_nextCount (.ref h11) (.ref h12) v_stamp (.ref h3) (.ref h13) (.ref h14) v_stackCount)), (h3, .inl (k1, 20, .inl v_cells))]) (w1 := [(h1, .inr (10, oX7 (.ref h2) r_1_0 r_1_1 a1_there))]) hP hD [0] [1, 2, 3] rfl rfl (by decide) (by decide) hk_1 hFc_1 hP1_1 hD1_1
  have hP_1 := hP_1.sub (ws' := [(h1, .inr (10, oX7 (.ref h2) r_1_0 r_1_1 a1_there)), (h2, .inl (k0, na1_items, .inl a1_items)), (h0, .inr (6, oX3 (.ref h4) (.ref h5) v_width (.ref h6) (.ref h7) (.ref h8) v_nowCount (.ref h9) (.ref h10) v_nextCount (.ref h11) (.ref h12) v_stamp (.ref h3) (.ref h13) (.ref h14) v_stackCount)), (h3, .inl (k1, 20, .inl v_cells))]) [3, 0, 1, 2] rfl
  have hD_1 := hD_1.sub (ws' := [(h1, .inr (10, oX7 (.ref h2) r_1_0 r_1_1 a1_there)), (h2, .inl (k0, na1_items, .inl a1_items)), (h0, .inr (6, oX3 (.ref h4) (.ref h5) v_width (.ref h6) (.ref h7) (.ref h8) v_nowCount (.ref h9) (.ref h10) v_nextCount (.ref h11) (.ref h12) v_stamp (.ref h3) (.ref h13) (.ref h14) v_stackCount)), (h3, .inl (k1, 20, .inl v_cells))]) [3, 0, 1, 2] (by decide) rfl
  clear hPc_1 hDc_1 hKc_1 hFc_1 hP1_1 hD1_1 hk_1 hz_1
  refine lv_iconst (v := 0) hx hb dX3_tell_4 (by decide) ?_
  refine lv_istore_n (lv' := [(2, .int 0), (0, .ref h0), (1, .ref h1)]) hx hb dX3_tell_5 rfl hl (by decide) rfl (fun ls_2 hl_2 => ?_)
  clear hl
  have k_6 : ∀ n_6 : Nat, ∀ (l2_6 : Int32) (a1_count_6 : Int32) (a1_over_6 : Bool) (a1_items_6 : Nat → Int32), ∀ (H_b6 : Heap) (locs_b6 : List Loc) (ls_b6 : Array Slot), w_X3_tell_6 na1_items v_width v_cells Q n_6 l2_6 a1_count_6 a1_over_6 a1_items_6 → va_P (dC, dI) vwCl [(h1, .inr (10, oX7 (.ref h2) a1_count_6 a1_over_6 a1_there)), (h2, .inl (k0, na1_items, .inl a1_items_6)), (h0, .inr (6, oX3 (.ref h4) (.ref h5) v_width (.ref h6) (.ref h7) (.ref h8) v_nowCount (.ref h9) (.ref h10) v_nextCount (.ref h11) (.ref h12) v_stamp (.ref h3) (.ref h13) (.ref h14) v_stackCount)), (h3, .inl (k1, 20, .inl v_cells))] H_b6 → va_D A [(h1, .inr (10, oX7 (.ref h2) a1_count_6 a1_over_6 a1_there)), (h2, .inl (k0, na1_items, .inl a1_items_6)), (h0, .inr (6, oX3 (.ref h4) (.ref h5) v_width (.ref h6) (.ref h7) (.ref h8) v_nowCount (.ref h9) (.ref h10) v_nextCount (.ref h11) (.ref h12) v_stamp (.ref h3) (.ref h13) (.ref h14) v_stackCount)), (h3, .inl (k1, 20, .inl v_cells))] → va_S A s.heap H_b6 locs_b6 → lv_has ls_b6 3 [(0, .ref h0), (1, .ref h1), (2, .int l2_6)] → W p l e ({ frames := 1, cells := 0, slots := 0, locals := 21 } : Room) s m ([.ref h0, .ref h1]).toArray below meth c H_b6 locs_b6 0 0 QQ (F0 m 6 ls_b6 []) := by
    intro n_6
    induction n_6 with
    | zero =>
      intro l2_6 a1_count_6 a1_over_6 a1_items_6 H_b6 locs_b6 ls_b6 w_b6 hP_b6 hD_b6 hS_b6 hl_b6
      exact False.elim (by unfold w_X3_tell_6 at w_b6; exact w_b6)
    | succ n_6 ih_6 =>
      intro l2_6 a1_count_6 a1_over_6 a1_items_6 H_b6 locs_b6 ls_b6 w_b6 hP_b6 hD_b6 hS_b6 hl_b6
      unfold w_X3_tell_6 at w_b6
      unfold w_X3_tell_6B at w_b6
      refine lv_iload_n hx hb dX3_tell_6 rfl (lv_at hl_b6 2 rfl) ?_
      refine lv_aload_n hx hb dX3_tell_7 rfl (lv_at hl_b6 0 rfl) ?_
      refine va_get (D := (dC, dI)) (ci := 6) (v := .int v_width) (C := RX3) (T := TX3) (N := 17) hx hb ht inX3 hown hK hP_b6 2 rfl rfl 2 (by decide) (ht _ tw_621) (fun _ h9 => h9) rfl dX3_tell_8 ?_
      have k_36 : ∀ (a1_count_36 : Int32) (a1_over_36 : Bool) (a1_items_36 : Nat → Int32), ∀ (H_b36 : Heap) (locs_b36 : List Loc) (ls_b36 : Array Slot), w_X3_tell_36 Q a1_count_36 a1_over_36 a1_items_36 → va_P (dC, dI) vwCl [(h1, .inr (10, oX7 (.ref h2) a1_count_36 a1_over_36 a1_there)), (h2, .inl (k0, na1_items, .inl a1_items_36)), (h0, .inr (6, oX3 (.ref h4) (.ref h5) v_width (.ref h6) (.ref h7) (.ref h8) v_nowCount (.ref h9) (.ref h10) v_nextCount (.ref h11) (.ref h12) v_stamp (.ref h3) (.ref h13) (.ref h14) v_stackCount)), (h3, .inl (k1, 20, .inl v_cells))] H_b36 → va_D A [(h1, .inr (10, oX7 (.ref h2) a1_count_36 a1_over_36 a1_there)), (h2, .inl (k0, na1_items, .inl a1_items_36)), (h0, .inr (6, oX3 (.ref h4) (.ref h5) v_width (.ref h6) (.ref h7) (.ref h8) v_nowCount (.ref h9) (.ref h10) v_nextCount (.ref h11) (.ref h12) v_stamp (.ref h3) (.ref h13) (.ref h14) v_stackCount)), (h3, .inl (k1, 20, .inl v_cells))] → va_S A s.heap H_b36 locs_b36 → lv_has ls_b36 3 [] → W p l e ({ frames := 1, cells := 0, slots := 0, locals := 21 } : Room) s m ([.ref h0, .ref h1]).toArray below meth c H_b36 locs_b36 0 0 QQ (F0 m 36 ls_b36 []) := by
        intro a1_count_36 a1_over_36 a1_items_36 H_b36 locs_b36 ls_b36 w_b36 hP_b36 hD_b36 hS_b36 hl_b36
        unfold w_X3_tell_36 at w_b36
        rw [hQQ]
        exact W.vret hx hb hr (fun t9 ht9 hW9 => ⟨⟨0, rfl, rfl, ⟨a1_count_36, a1_over_36, a1_items_36, w_b36, by rw [ht9]; exact hP_b36, hD_b36⟩⟩, hS_b36.F ht9⟩) hS_b36.2.2 dX3_tell_36
      refine lv_icmp_ge (tgt := 36) hx hb dX3_tell_11 (by decide) (fun c_3 => ?_) (fun c_3 => ?_)
      · exact k_36 a1_count_6 a1_over_6 a1_items_6 _ _ _ (w_b6.1 c_3) hP_b6 hD_b6 hS_b6 (lv_sub hl_b6 [] rfl)
      · refine lv_iload_n hx hb dX3_tell_14 rfl (lv_at hl_b6 2 rfl) ?_
        refine lv_bipush (v := 20) hx hb dX3_tell_15 (by decide) ?_
        refine lv_icmp_ge (tgt := 36) hx hb dX3_tell_17 (by decide) (fun c_4 => ?_) (fun c_4 => ?_)
        · exact k_36 a1_count_6 a1_over_6 a1_items_6 _ _ _ ((w_b6.2 c_3).1 c_4) hP_b6 hD_b6 hS_b6 (lv_sub hl_b6 [] rfl)
        · refine lv_aload_n hx hb dX3_tell_20 rfl (lv_at hl_b6 1 rfl) ?_
          refine lv_aload_n hx hb dX3_tell_21 rfl (lv_at hl_b6 0 rfl) ?_
          refine va_get (D := (dC, dI)) (ci := 6) (v := .ref h3) (C := RX3) (T := TX3) (N := 17) hx hb ht inX3 hown hK hP_b6 2 rfl rfl 13 (by decide) (ht _ tw_632) (fun _ h9 => h9) rfl dX3_tell_22 ?_
          refine lv_iload_n hx hb dX3_tell_25 rfl (lv_at hl_b6 2 rfl) ?_
          refine va_iald hx hb hK hP_b6 3 1 rfl rfl (i := l2_6) ((w_b6.2 c_3).2 c_4).1 dX3_tell_26 ?_
          refine lv_topi (fun x_5 ex_5 => ?_)
          have ex_5 : x_5 = v_cells l2_6.toNatClampNeg := ex_5
          have hPc_6 := hP_b6.sub (ws' := [(h1, .inr (10, oX7 (.ref h2) a1_count_6 a1_over_6 a1_there)), (h2, .inl (k0, na1_items, .inl a1_items_6))]) [0, 1] rfl
          have hDc_6 := hD_b6.sub (ws' := [(h1, .inr (10, oX7 (.ref h2) a1_count_6 a1_over_6 a1_there)), (h2, .inl (k0, na1_items, .inl a1_items_6))]) [0, 1] (by decide) rfl
          have hKc_6 := hK.sub (tys' := [(k0, .int)]) [0] rfl
          have hFc_6 := va_free (wc := [(h1, .inr (10, oX7 (.ref h2) a1_count_6 a1_over_6 a1_there)), (h2, .inl (k0, na1_items, .inl a1_items_6))]) hD_b6 hS_b6 hA [0, 1] rfl
          refine va_callv (va_runV (As := [.int x_5]) (rest := []) ⟨hx, hb, hml, hown, ht⟩ (mt_X7_add l dC dI h1 h2 k0 x_5 a1_count_6 a1_over_6 a1_there a1_items_6 na1_items _ ((((w_b6.2 c_3).2 c_4).2) x_5 ex_5) H_b6.size) (cwV 1 ht (goodV tw_1579 tw_866 tw_867 tw_237 gw_X7_add) rfl rfl rfl (by decide +kernel) ⟨Nat.le_of_ble_eq_true rfl, Nat.le_of_ble_eq_true rfl⟩) ⟨fun a U g mk q => by obtain ⟨q0, q1, qP, qK, qD⟩ := q; exact ⟨q0, q1, qP, va_K.moved (u := U) (U := U.calling g mk a) (Vm.Alike.refl U.vm) qK, qD⟩, va_recv hKc_6 hPc_6 (ci := 10) (q0 := 0) rfl rfl, fun U hU hW => ⟨rfl, by rw [hU], by rw [hU]; exact hPc_6, va_K.moved hW.alike hKc_6, hDc_6.weaken (fun _ _ _ _ => trivial)⟩⟩ rfl rfl hl_b6.1 rfl (lv_room (Nat.le_of_ble_eq_true rfl)) dX3_tell_27 ⟨Nat.le_of_ble_eq_true rfl, Nat.le_of_ble_eq_true rfl⟩) hS_b6 (fun q _ h => hFc_6 q h) hFc_6 (fun u_6 t_6 H_6 locs_6 ht_6 hvm_6 hw_6 hB_6 hz_6 hk_6 hS_6 => ?_)
          subst hw_6
          obtain ⟨r_6_0, r_6_1, r_6_2, w_6, hP1_6, hD1_6⟩ := hB_6
          rw [ht_6] at hP1_6
          obtain ⟨hP_6, hD_6⟩ := va_join (wr := [(h0, .inr (6, oX3 (.ref h4) (.ref h5) v_width (.ref h6) (.ref h7) (.ref h8) v_nowCount (.ref h9) (.ref h10) v_nextCount (.ref h11) (.ref h12) v_stamp (.ref h3) (.ref h13) (.ref h14) v_stackCount)), (h3, .inl (k1, 20, .inl v_cells))]) (w1 := [(h1, .inr (10, oX7 (.ref h2) r_6_0 r_6_1 a1_there)), (h2, .inl (k0, na1_items, .inl r_6_2))]) hP_b6 hD_b6 [0, 1] [2, 3] rfl rfl (by decide) (by decide) hk_6 hFc_6 hP1_6 hD1_6
          have hP_6 := hP_6.sub (ws' := [(h1, .inr (10, oX7 (.ref h2) r_6_0 r_6_1 a1_there)), (h2, .inl (k0, na1_items, .inl r_6_2)), (h0, .inr (6, oX3 (.ref h4) (.ref h5) v_width (.ref h6) (.ref h7) (.ref h8) v_nowCount (.ref h9) (.ref h10) v_nextCount (.ref h11) (.ref h12) v_stamp (.ref h3) (.ref h13) (.ref h14) v_stackCount)), (h3, .inl (k1, 20, .inl v_cells))]) [2, 3, 0, 1] rfl
          have hD_6 := hD_6.sub (ws' := [(h1, .inr (10, oX7 (.ref h2) r_6_0 r_6_1 a1_there)), (h2, .inl (k0, na1_items, .inl r_6_2)), (h0, .inr (6, oX3 (.ref h4) (.ref h5) v_width (.ref h6) (.ref h7) (.ref h8) v_nowCount (.ref h9) (.ref h10) v_nextCount (.ref h11) (.ref h12) v_stamp (.ref h3) (.ref h13) (.ref h14) v_stackCount)), (h3, .inl (k1, 20, .inl v_cells))]) [2, 3, 0, 1] (by decide) rfl
          clear hPc_6 hDc_6 hKc_6 hFc_6 hP1_6 hD1_6 hk_6 hz_6
          obtain ⟨x_7, ex_7⟩ : ∃ y : Int32, y = l2_6 + 1 := ⟨_, rfl⟩
          refine lv_iinc (v := x_7) (lv' := [(2, .int x_7), (0, .ref h0), (1, .ref h1)]) hx hb dX3_tell_30 hl_b6 (k := 2) rfl ex_7.symm (by decide) rfl (fun ls_7 hl_7 => ?_)
          refine lv_goto (tgt := 6) hx hb dX3_tell_33 (by decide) ?_
          exact ih_6 x_7 r_6_0 r_6_1 r_6_2 _ _ _ (w_6 x_7 ex_7) hP_6 hD_6 hS_6 (lv_sub hl_7 [1, 2, 0] rfl)
  obtain ⟨n_8, w_8⟩ := w_1
  exact k_6 n_8 0 r_1_0 r_1_1 a1_items _ _ _ w_8 hP_1 hD_1 hS_1 (lv_sub hl_2 [1, 2, 0] rfl)
def w_X3_isNew_24 (Q : Int32 → (Nat → Int32) → Prop) (v_seen_24 : Nat → Int32) : Prop :=
  Q 0 v_seen_24
def w_X3_isNew (p1 : Int32) (v_stamp : Int32) (v_seen : Nat → Int32) (Q : Int32 → (Nat → Int32) → Prop) : Prop :=
  ((p1 < 0) → w_X3_isNew_24 Q v_seen) ∧ ((¬ p1 < 0) → ((5632 ≤ p1) → w_X3_isNew_24 Q v_seen) ∧ ((¬ 5632 ≤ p1) → vp_in p1 5632 ∧ ∀ x_3 : Int32, x_3 = v_seen p1.toNatClampNeg → ((¬ x_3 = v_stamp) → vp_in p1 5632 ∧ ∀ g_5 : Nat → Int32, g_5 = upd v_seen p1.toNatClampNeg v_stamp → Q 1 g_5) ∧ ((x_3 = v_stamp) → w_X3_isNew_24 Q v_seen)))
set_option maxHeartbeats 4000000 in
set_option maxRecDepth 100000 in
theorem mt_X3_isNew (l : Launch) (dC : Nat → ClassId) (dI : Nat → Nat → Nat) (h0 h1 h2 h3 h4 h5 h6 h7 h8 h9 h10 h11 h12 : Nat) (k0 : ClassId) (p1 : Int32) (v_width : Int32) (v_nowCount : Int32) (v_nextCount : Int32) (v_stamp : Int32) (v_stackCount : Int32) (v_seen : Nat → Int32) (Q : Int32 → (Nat → Int32) → Prop) (w : w_X3_isNew p1 v_stamp v_seen Q) (sz : Nat) : Met l yX3_isNew (WS yX3_isNew cX3_isNew 2 (some (.boolean))) ({ frames := 0, cells := 0, slots := 0, locals := 0 } : Room) (va_Pc [.ref h0, .int p1] (fun U => U.heap.size = sz ∧ va_P (dC, dI) vwCl [(h0, .inr (6, oX3 (.ref h2) (.ref h3) v_width (.ref h4) (.ref h5) (.ref h6) v_nowCount (.ref h7) (.ref h8) v_nextCount (.ref h1) (.ref h9) v_stamp (.ref h10) (.ref h11) (.ref h12) v_stackCount)), (h1, .inl (k0, 5632, .inl v_seen))] U.heap ∧ va_K (dC, dI) vwCl [(k0, .int)] U ∧ va_D (fun _ => True) [(h0, .inr (6, oX3 (.ref h2) (.ref h3) v_width (.ref h4) (.ref h5) (.ref h6) v_nowCount (.ref h7) (.ref h8) v_nextCount (.ref h1) (.ref h9) v_stamp (.ref h10) (.ref h11) (.ref h12) v_stackCount)), (h1, .inl (k0, 5632, .inl v_seen))])) (va_Qi (fun (r u : Int32) => r = u) (fun (u : Int32) (t : State) => ∃ (ov_seen : Nat → Int32), (Q u ov_seen) ∧ va_P (dC, dI) vwCl [(h0, .inr (6, oX3 (.ref h2) (.ref h3) v_width (.ref h4) (.ref h5) (.ref h6) v_nowCount (.ref h7) (.ref h8) v_nextCount (.ref h1) (.ref h9) v_stamp (.ref h10) (.ref h11) (.ref h12) v_stackCount)), (h1, .inl (k0, 5632, .inl ov_seen))] t.heap ∧ va_D (va_A [(h0, .inr (6, oX3 (.ref h2) (.ref h3) v_width (.ref h4) (.ref h5) (.ref h6) v_nowCount (.ref h7) (.ref h8) v_nextCount (.ref h1) (.ref h9) v_stamp (.ref h10) (.ref h11) (.ref h12) v_stackCount)), (h1, .inl (k0, 5632, .inl v_seen))] sz) [(h0, .inr (6, oX3 (.ref h2) (.ref h3) v_width (.ref h4) (.ref h5) (.ref h6) v_nowCount (.ref h7) (.ref h8) v_nextCount (.ref h1) (.ref h9) v_stamp (.ref h10) (.ref h11) (.ref h12) v_stackCount)), (h1, .inl (k0, 5632, .inl ov_seen))]) (va_A [(h0, .inr (6, oX3 (.ref h2) (.ref h3) v_width (.ref h4) (.ref h5) (.ref h6) v_nowCount (.ref h7) (.ref h8) v_nextCount (.ref h1) (.ref h9) v_stamp (.ref h10) (.ref h11) (.ref h12) v_stackCount)), (h1, .inl (k0, 5632, .inl v_seen))] sz)) 0 0 (va_A [(h0, .inr (6, oX3 (.ref h2) (.ref h3) v_width (.ref h4) (.ref h5) (.ref h6) v_nowCount (.ref h7) (.ref h8) v_nextCount (.ref h1) (.ref h9) v_stamp (.ref h10) (.ref h11) (.ref h12) v_stackCount)), (h1, .inl (k0, 5632, .inl v_seen))] sz) := by
  refine Met.ofW (cc := cX3_isNew) (maxL := 2) (ret := (some (.boolean))) (by decide) rfl ?_
  intro p e s m args below meth c s₁ B hml hv
  obtain ⟨rfl, hsz, hP, hK, hD0⟩ := hv
  have hx := B.exec
  have hb := B.bytes
  have hr := B.returns
  have hts := atoms_spec (ws := WS yX3_isNew cX3_isNew 2 (some (.boolean))) B.pre
  have ht : ∀ w ∈ TW, w.before _ s = true := fun w h => hts w (List.mem_cons_of_mem _ h)
  have hown : s.vm.findClass "PatternWorkshop$Parallel" = some m.cls := findClass_of_methodNamed B.named
  have hlocks := B.notSynchronized
  subst hsz
  have hD := hD0.self (sz := s.heap.size)
  generalize hAe : va_A [(h0, .inr (6, oX3 (.ref h2) (.ref h3) v_width (.ref h4) (.ref h5) (.ref h6) v_nowCount (.ref h7) (.ref h8) v_nextCount (.ref h1) (.ref h9) v_stamp (.ref h10) (.ref h11) (.ref h12) v_stackCount)), (h1, .inl (k0, 5632, .inl v_seen))] s.heap.size = A at hD ⊢
  have hA : ∀ q : Nat, s.heap.size ≤ q → A q := fun q h => by rw [← hAe]; exact Or.inr h
  have hS : va_S A s.heap s.heap [] := va_S.rf
  have hP : va_P (dC, dI) vwCl [(h0, .inr (6, oX3 (.ref h2) (.ref h3) v_width (.ref h4) (.ref h5) (.ref h6) v_nowCount (.ref h7) (.ref h8) v_nextCount (.ref h1) (.ref h9) v_stamp (.ref h10) (.ref h11) (.ref h12) v_stackCount)), (h1, .inl (k0, 5632, .inl v_seen))] s.heap := hP
  have hl := lv_entry ([.ref h0, .int p1]) (n := 2) (Nat.le_of_ble_eq_true rfl)
  rw [lg_entry_eq]
  generalize (lg_sl ([.ref h0, .int p1]) ++ List.replicate (2 - (lg_sl ([.ref h0, .int p1])).length) Slot.unset).toArray = ls at hl ⊢
  have hl : lv_has ls 2 [(0, .ref h0), (1, .int p1)] := hl
  clear hD0
  obtain ⟨QQ, hQQ⟩ : ∃ QQ, QQ = MQ below (va_Qi (fun (r u : Int32) => r = u) (fun (u : Int32) (t : State) => ∃ (ov_seen : Nat → Int32), (Q u ov_seen) ∧ va_P (dC, dI) vwCl [(h0, .inr (6, oX3 (.ref h2) (.ref h3) v_width (.ref h4) (.ref h5) (.ref h6) v_nowCount (.ref h7) (.ref h8) v_nextCount (.ref h1) (.ref h9) v_stamp (.ref h10) (.ref h11) (.ref h12) v_stackCount)), (h1, .inl (k0, 5632, .inl ov_seen))] t.heap ∧ va_D A [(h0, .inr (6, oX3 (.ref h2) (.ref h3) v_width (.ref h4) (.ref h5) (.ref h6) v_nowCount (.ref h7) (.ref h8) v_nextCount (.ref h1) (.ref h9) v_stamp (.ref h10) (.ref h11) (.ref h12) v_stackCount)), (h1, .inl (k0, 5632, .inl ov_seen))]) A) ([.ref h0, .int p1]).toArray s 0 0 A := ⟨_, rfl⟩
  show W p l e ({ frames := 0, cells := 0, slots := 0, locals := 0 } : Room) s m ([.ref h0, .int p1]).toArray below meth c s.heap [] 0 0 (MQ below (va_Qi (fun (r u : Int32) => r = u) (fun (u : Int32) (t : State) => ∃ (ov_seen : Nat → Int32), (Q u ov_seen) ∧ va_P (dC, dI) vwCl [(h0, .inr (6, oX3 (.ref h2) (.ref h3) v_width (.ref h4) (.ref h5) (.ref h6) v_nowCount (.ref h7) (.ref h8) v_nextCount (.ref h1) (.ref h9) v_stamp (.ref h10) (.ref h11) (.ref h12) v_stackCount)), (h1, .inl (k0, 5632, .inl ov_seen))] t.heap ∧ va_D A [(h0, .inr (6, oX3 (.ref h2) (.ref h3) v_width (.ref h4) (.ref h5) (.ref h6) v_nowCount (.ref h7) (.ref h8) v_nextCount (.ref h1) (.ref h9) v_stamp (.ref h10) (.ref h11) (.ref h12) v_stackCount)), (h1, .inl (k0, 5632, .inl ov_seen))]) A) ([.ref h0, .int p1]).toArray s 0 0 A) (F0 m 0 ls [])
  rw [← hQQ]
  unfold w_X3_isNew at w
  refine lv_iload_n hx hb dX3_isNew_0 rfl (lv_at hl 1 rfl) ?_
  have k_24 : ∀ (v_seen_24 : Nat → Int32), ∀ (H_b24 : Heap) (locs_b24 : List Loc) (ls_b24 : Array Slot), w_X3_isNew_24 Q v_seen_24 → va_P (dC, dI) vwCl [(h0, .inr (6, oX3 (.ref h2) (.ref h3) v_width (.ref h4) (.ref h5) (.ref h6) v_nowCount (.ref h7) (.ref h8) v_nextCount (.ref h1) (.ref h9) v_stamp (.ref h10) (.ref h11) (.ref h12) v_stackCount)), (h1, .inl (k0, 5632, .inl v_seen_24))] H_b24 → va_D A [(h0, .inr (6, oX3 (.ref h2) (.ref h3) v_width (.ref h4) (.ref h5) (.ref h6) v_nowCount (.ref h7) (.ref h8) v_nextCount (.ref h1) (.ref h9) v_stamp (.ref h10) (.ref h11) (.ref h12) v_stackCount)), (h1, .inl (k0, 5632, .inl v_seen_24))] → va_S A s.heap H_b24 locs_b24 → lv_has ls_b24 2 [] → W p l e ({ frames := 0, cells := 0, slots := 0, locals := 0 } : Room) s m ([.ref h0, .int p1]).toArray below meth c H_b24 locs_b24 0 0 QQ (F0 m 24 ls_b24 []) := by
    intro v_seen_24 H_b24 locs_b24 ls_b24 w_b24 hP_b24 hD_b24 hS_b24 hl_b24
    unfold w_X3_isNew_24 at w_b24
    refine lv_iconst (v := 0) hx hb dX3_isNew_24 (by decide) ?_
    rw [hQQ]
    exact W.zret (v := 0) hx hb hr rfl (fun t9 ht9 hW9 => ⟨⟨0, 0, rfl, rfl, ⟨v_seen_24, w_b24, by rw [ht9]; exact hP_b24, hD_b24⟩⟩, hS_b24.F ht9⟩) hS_b24.2.2 dX3_isNew_25
  refine lv_if_lt (tgt := 24) hx hb dX3_isNew_1 (by decide) (fun c_1 => ?_) (fun c_1 => ?_)
  · exact k_24 v_seen _ _ _ (w.1 c_1) hP hD hS (lv_sub hl [] rfl)
  · refine lv_iload_n hx hb dX3_isNew_4 rfl (lv_at hl 1 rfl) ?_
    refine lv_sipush (v := 5632) hx hb dX3_isNew_5 (by decide) ?_
    refine lv_icmp_ge (tgt := 24) hx hb dX3_isNew_8 (by decide) (fun c_2 => ?_) (fun c_2 => ?_)
    · exact k_24 v_seen _ _ _ ((w.2 c_1).1 c_2) hP hD hS (lv_sub hl [] rfl)
    · refine lv_aload_n hx hb dX3_isNew_11 rfl (lv_at hl 0 rfl) ?_
      refine va_get (D := (dC, dI)) (ci := 6) (v := .ref h1) (C := RX3) (T := TX3) (N := 17) hx hb ht inX3 hown hK hP 0 rfl rfl 10 (by decide) (ht _ tw_629) (fun _ h9 => h9) rfl dX3_isNew_12 ?_
      refine lv_iload_n hx hb dX3_isNew_15 rfl (lv_at hl 1 rfl) ?_
      refine va_iald hx hb hK hP 1 0 rfl rfl (i := p1) ((w.2 c_1).2 c_2).1 dX3_isNew_16 ?_
      refine lv_topi (fun x_3 ex_3 => ?_)
      have ex_3 : x_3 = v_seen p1.toNatClampNeg := ex_3
      refine lv_aload_n hx hb dX3_isNew_17 rfl (lv_at hl 0 rfl) ?_
      refine va_get (D := (dC, dI)) (ci := 6) (v := .int v_stamp) (C := RX3) (T := TX3) (N := 17) hx hb ht inX3 hown hK hP 0 rfl rfl 12 (by decide) (ht _ tw_631) (fun _ h9 => h9) rfl dX3_isNew_18 ?_
      refine lv_icmp_ne (tgt := 26) hx hb dX3_isNew_21 (by decide) (fun c_4 => ?_) (fun c_4 => ?_)
      · refine lv_aload_n hx hb dX3_isNew_26 rfl (lv_at hl 0 rfl) ?_
        refine va_get (D := (dC, dI)) (ci := 6) (v := .ref h1) (C := RX3) (T := TX3) (N := 17) hx hb ht inX3 hown hK hP 0 rfl rfl 10 (by decide) (ht _ tw_629) (fun _ h9 => h9) rfl dX3_isNew_27 ?_
        refine lv_iload_n hx hb dX3_isNew_30 rfl (lv_at hl 1 rfl) ?_
        refine lv_aload_n hx hb dX3_isNew_31 rfl (lv_at hl 0 rfl) ?_
        refine va_get (D := (dC, dI)) (ci := 6) (v := .int v_stamp) (C := RX3) (T := TX3) (N := 17) hx hb ht inX3 hown hK hP 0 rfl rfl 12 (by decide) (ht _ tw_631) (fun _ h9 => h9) rfl dX3_isNew_32 ?_
        refine va_iast hx hb hK hP hD hS 1 0 rfl rfl (i := p1) (((((w.2 c_1).2 c_2).2) x_3 ex_3).1 c_4).1 dX3_isNew_35 (fun H_5 locs_5 hP_5 hD_5 hS_5 => ?_)
        obtain ⟨g_5, hg_5⟩ : ∃ g : Nat → Int32, g = upd v_seen p1.toNatClampNeg v_stamp := ⟨_, rfl⟩
        have hP_5 : va_P (dC, dI) vwCl [(h0, .inr (6, oX3 (.ref h2) (.ref h3) v_width (.ref h4) (.ref h5) (.ref h6) v_nowCount (.ref h7) (.ref h8) v_nextCount (.ref h1) (.ref h9) v_stamp (.ref h10) (.ref h11) (.ref h12) v_stackCount)), (h1, .inl (k0, 5632, .inl g_5))] H_5 := by rw [hg_5]; exact hP_5
        have hD_5 : va_D A [(h0, .inr (6, oX3 (.ref h2) (.ref h3) v_width (.ref h4) (.ref h5) (.ref h6) v_nowCount (.ref h7) (.ref h8) v_nextCount (.ref h1) (.ref h9) v_stamp (.ref h10) (.ref h11) (.ref h12) v_stackCount)), (h1, .inl (k0, 5632, .inl g_5))] := by rw [hg_5]; exact hD_5
        refine lv_iconst (v := 1) hx hb dX3_isNew_36 (by decide) ?_
        have w_6 := ((((((w.2 c_1).2 c_2).2) x_3 ex_3).1 c_4).2) g_5 hg_5
        rw [hQQ]
        exact W.zret (v := 1) hx hb hr rfl (fun t9 ht9 hW9 => ⟨⟨1, 1, rfl, rfl, ⟨g_5, w_6, by rw [ht9]; exact hP_5, hD_5⟩⟩, hS_5.F ht9⟩) hS_5.2.2 dX3_isNew_37
      · exact k_24 v_seen _ _ _ (((((w.2 c_1).2 c_2).2) x_3 ex_3).2 c_4) hP hD hS (lv_sub hl [] rfl)
def w_X3_push_47 (Q : Int32 → (Nat → Int32) → (Nat → Int32) → Prop) (v_stackCount_47 : Int32) (v_stack_47 : Nat → Int32) (v_kept_47 : Nat → Int32) : Prop :=
  Q  v_stackCount_47 v_stack_47 v_kept_47
def w_X3_push (p1 : Int32) (p2 : Int32) (v_stackCount : Int32) (v_stack : Nat → Int32) (v_kept : Nat → Int32) (Q : Int32 → (Nat → Int32) → (Nat → Int32) → Prop) : Prop :=
  ((v_stackCount < 0) → w_X3_push_47 Q v_stackCount v_stack v_kept) ∧ ((¬ v_stackCount < 0) → ((11266 ≤ v_stackCount) → w_X3_push_47 Q v_stackCount v_stack v_kept) ∧ ((¬ 11266 ≤ v_stackCount) → vp_in v_stackCount 11266 ∧ ∀ g_3 : Nat → Int32, g_3 = upd v_stack v_stackCount.toNatClampNeg p1 → vp_in v_stackCount 11266 ∧ ∀ g_4 : Nat → Int32, g_4 = upd v_kept v_stackCount.toNatClampNeg p2 → ∀ x_5 : Int32, x_5 = v_stackCount + (1 : Int32) → w_X3_push_47 Q x_5 g_3 g_4))
set_option maxHeartbeats 4000000 in
set_option maxRecDepth 100000 in
theorem mt_X3_push (l : Launch) (dC : Nat → ClassId) (dI : Nat → Nat → Nat) (h0 h1 h2 h3 h4 h5 h6 h7 h8 h9 h10 h11 h12 : Nat) (k0 k1 : ClassId) (p1 : Int32) (p2 : Int32) (v_width : Int32) (v_nowCount : Int32) (v_nextCount : Int32) (v_stamp : Int32) (v_stackCount : Int32) (v_stack : Nat → Int32) (v_kept : Nat → Int32) (Q : Int32 → (Nat → Int32) → (Nat → Int32) → Prop) (w : w_X3_push p1 p2 v_stackCount v_stack v_kept Q) (sz : Nat) : Met l yX3_push (WS yX3_push cX3_push 3 none) ({ frames := 0, cells := 0, slots := 0, locals := 0 } : Room) (va_Pc [.ref h0, .int p1, .int p2] (fun U => U.heap.size = sz ∧ va_P (dC, dI) vwCl [(h0, .inr (6, oX3 (.ref h3) (.ref h4) v_width (.ref h5) (.ref h6) (.ref h7) v_nowCount (.ref h8) (.ref h9) v_nextCount (.ref h10) (.ref h11) v_stamp (.ref h12) (.ref h1) (.ref h2) v_stackCount)), (h1, .inl (k0, 11266, .inl v_stack)), (h2, .inl (k1, 11266, .inl v_kept))] U.heap ∧ va_K (dC, dI) vwCl [(k0, .int), (k1, .int)] U ∧ va_D (fun _ => True) [(h0, .inr (6, oX3 (.ref h3) (.ref h4) v_width (.ref h5) (.ref h6) (.ref h7) v_nowCount (.ref h8) (.ref h9) v_nextCount (.ref h10) (.ref h11) v_stamp (.ref h12) (.ref h1) (.ref h2) v_stackCount)), (h1, .inl (k0, 11266, .inl v_stack)), (h2, .inl (k1, 11266, .inl v_kept))])) (va_Qv (fun (u : Nat) => u = 0) (fun (_ : Nat) (t : State) => ∃ (ov_stackCount : Int32), ∃ (ov_stack : Nat → Int32), ∃ (ov_kept : Nat → Int32), (Q ov_stackCount ov_stack ov_kept) ∧ va_P (dC, dI) vwCl [(h0, .inr (6, oX3 (.ref h3) (.ref h4) v_width (.ref h5) (.ref h6) (.ref h7) v_nowCount (.ref h8) (.ref h9) v_nextCount (.ref h10) (.ref h11) v_stamp (.ref h12) (.ref h1) (.ref h2) ov_stackCount)), (h1, .inl (k0, 11266, .inl ov_stack)), (h2, .inl (k1, 11266, .inl ov_kept))] t.heap ∧ va_D (va_A [(h0, .inr (6, oX3 (.ref h3) (.ref h4) v_width (.ref h5) (.ref h6) (.ref h7) v_nowCount (.ref h8) (.ref h9) v_nextCount (.ref h10) (.ref h11) v_stamp (.ref h12) (.ref h1) (.ref h2) v_stackCount)), (h1, .inl (k0, 11266, .inl v_stack)), (h2, .inl (k1, 11266, .inl v_kept))] sz) [(h0, .inr (6, oX3 (.ref h3) (.ref h4) v_width (.ref h5) (.ref h6) (.ref h7) v_nowCount (.ref h8) (.ref h9) v_nextCount (.ref h10) (.ref h11) v_stamp (.ref h12) (.ref h1) (.ref h2) ov_stackCount)), (h1, .inl (k0, 11266, .inl ov_stack)), (h2, .inl (k1, 11266, .inl ov_kept))]) (va_A [(h0, .inr (6, oX3 (.ref h3) (.ref h4) v_width (.ref h5) (.ref h6) (.ref h7) v_nowCount (.ref h8) (.ref h9) v_nextCount (.ref h10) (.ref h11) v_stamp (.ref h12) (.ref h1) (.ref h2) v_stackCount)), (h1, .inl (k0, 11266, .inl v_stack)), (h2, .inl (k1, 11266, .inl v_kept))] sz)) 0 0 (va_A [(h0, .inr (6, oX3 (.ref h3) (.ref h4) v_width (.ref h5) (.ref h6) (.ref h7) v_nowCount (.ref h8) (.ref h9) v_nextCount (.ref h10) (.ref h11) v_stamp (.ref h12) (.ref h1) (.ref h2) v_stackCount)), (h1, .inl (k0, 11266, .inl v_stack)), (h2, .inl (k1, 11266, .inl v_kept))] sz) := by
  refine Met.ofW (cc := cX3_push) (maxL := 3) (ret := none) (by decide) rfl ?_
  intro p e s m args below meth c s₁ B hml hv
  obtain ⟨rfl, hsz, hP, hK, hD0⟩ := hv
  have hx := B.exec
  have hb := B.bytes
  have hr := B.returns
  have hts := atoms_spec (ws := WS yX3_push cX3_push 3 none) B.pre
  have ht : ∀ w ∈ TW, w.before _ s = true := fun w h => hts w (List.mem_cons_of_mem _ h)
  have hown : s.vm.findClass "PatternWorkshop$Parallel" = some m.cls := findClass_of_methodNamed B.named
  have hlocks := B.notSynchronized
  subst hsz
  have hD := hD0.self (sz := s.heap.size)
  generalize hAe : va_A [(h0, .inr (6, oX3 (.ref h3) (.ref h4) v_width (.ref h5) (.ref h6) (.ref h7) v_nowCount (.ref h8) (.ref h9) v_nextCount (.ref h10) (.ref h11) v_stamp (.ref h12) (.ref h1) (.ref h2) v_stackCount)), (h1, .inl (k0, 11266, .inl v_stack)), (h2, .inl (k1, 11266, .inl v_kept))] s.heap.size = A at hD ⊢
  have hA : ∀ q : Nat, s.heap.size ≤ q → A q := fun q h => by rw [← hAe]; exact Or.inr h
  have hS : va_S A s.heap s.heap [] := va_S.rf
  have hP : va_P (dC, dI) vwCl [(h0, .inr (6, oX3 (.ref h3) (.ref h4) v_width (.ref h5) (.ref h6) (.ref h7) v_nowCount (.ref h8) (.ref h9) v_nextCount (.ref h10) (.ref h11) v_stamp (.ref h12) (.ref h1) (.ref h2) v_stackCount)), (h1, .inl (k0, 11266, .inl v_stack)), (h2, .inl (k1, 11266, .inl v_kept))] s.heap := hP
  have hl := lv_entry ([.ref h0, .int p1, .int p2]) (n := 3) (Nat.le_of_ble_eq_true rfl)
  rw [lg_entry_eq]
  generalize (lg_sl ([.ref h0, .int p1, .int p2]) ++ List.replicate (3 - (lg_sl ([.ref h0, .int p1, .int p2])).length) Slot.unset).toArray = ls at hl ⊢
  have hl : lv_has ls 3 [(0, .ref h0), (1, .int p1), (2, .int p2)] := hl
  clear hD0
  obtain ⟨QQ, hQQ⟩ : ∃ QQ, QQ = MQ below (va_Qv (fun (u : Nat) => u = 0) (fun (_ : Nat) (t : State) => ∃ (ov_stackCount : Int32), ∃ (ov_stack : Nat → Int32), ∃ (ov_kept : Nat → Int32), (Q ov_stackCount ov_stack ov_kept) ∧ va_P (dC, dI) vwCl [(h0, .inr (6, oX3 (.ref h3) (.ref h4) v_width (.ref h5) (.ref h6) (.ref h7) v_nowCount (.ref h8) (.ref h9) v_nextCount (.ref h10) (.ref h11) v_stamp (.ref h12) (.ref h1) (.ref h2) ov_stackCount)), (h1, .inl (k0, 11266, .inl ov_stack)), (h2, .inl (k1, 11266, .inl ov_kept))] t.heap ∧ va_D A [(h0, .inr (6, oX3 (.ref h3) (.ref h4) v_width (.ref h5) (.ref h6) (.ref h7) v_nowCount (.ref h8) (.ref h9) v_nextCount (.ref h10) (.ref h11) v_stamp (.ref h12) (.ref h1) (.ref h2) ov_stackCount)), (h1, .inl (k0, 11266, .inl ov_stack)), (h2, .inl (k1, 11266, .inl ov_kept))]) A) ([.ref h0, .int p1, .int p2]).toArray s 0 0 A := ⟨_, rfl⟩
  show W p l e ({ frames := 0, cells := 0, slots := 0, locals := 0 } : Room) s m ([.ref h0, .int p1, .int p2]).toArray below meth c s.heap [] 0 0 (MQ below (va_Qv (fun (u : Nat) => u = 0) (fun (_ : Nat) (t : State) => ∃ (ov_stackCount : Int32), ∃ (ov_stack : Nat → Int32), ∃ (ov_kept : Nat → Int32), (Q ov_stackCount ov_stack ov_kept) ∧ va_P (dC, dI) vwCl [(h0, .inr (6, oX3 (.ref h3) (.ref h4) v_width (.ref h5) (.ref h6) (.ref h7) v_nowCount (.ref h8) (.ref h9) v_nextCount (.ref h10) (.ref h11) v_stamp (.ref h12) (.ref h1) (.ref h2) ov_stackCount)), (h1, .inl (k0, 11266, .inl ov_stack)), (h2, .inl (k1, 11266, .inl ov_kept))] t.heap ∧ va_D A [(h0, .inr (6, oX3 (.ref h3) (.ref h4) v_width (.ref h5) (.ref h6) (.ref h7) v_nowCount (.ref h8) (.ref h9) v_nextCount (.ref h10) (.ref h11) v_stamp (.ref h12) (.ref h1) (.ref h2) ov_stackCount)), (h1, .inl (k0, 11266, .inl ov_stack)), (h2, .inl (k1, 11266, .inl ov_kept))]) A) ([.ref h0, .int p1, .int p2]).toArray s 0 0 A) (F0 m 0 ls [])
  rw [← hQQ]
  unfold w_X3_push at w
  refine lv_aload_n hx hb dX3_push_0 rfl (lv_at hl 0 rfl) ?_
  refine va_get (D := (dC, dI)) (ci := 6) (v := .int v_stackCount) (C := RX3) (T := TX3) (N := 17) hx hb ht inX3 hown hK hP 0 rfl rfl 16 (by decide) (ht _ tw_635) (fun _ h9 => h9) rfl dX3_push_1 ?_
  have k_47 : ∀ (v_stackCount_47 : Int32) (v_stack_47 : Nat → Int32) (v_kept_47 : Nat → Int32), ∀ (H_b47 : Heap) (locs_b47 : List Loc) (ls_b47 : Array Slot), w_X3_push_47 Q v_stackCount_47 v_stack_47 v_kept_47 → va_P (dC, dI) vwCl [(h0, .inr (6, oX3 (.ref h3) (.ref h4) v_width (.ref h5) (.ref h6) (.ref h7) v_nowCount (.ref h8) (.ref h9) v_nextCount (.ref h10) (.ref h11) v_stamp (.ref h12) (.ref h1) (.ref h2) v_stackCount_47)), (h1, .inl (k0, 11266, .inl v_stack_47)), (h2, .inl (k1, 11266, .inl v_kept_47))] H_b47 → va_D A [(h0, .inr (6, oX3 (.ref h3) (.ref h4) v_width (.ref h5) (.ref h6) (.ref h7) v_nowCount (.ref h8) (.ref h9) v_nextCount (.ref h10) (.ref h11) v_stamp (.ref h12) (.ref h1) (.ref h2) v_stackCount_47)), (h1, .inl (k0, 11266, .inl v_stack_47)), (h2, .inl (k1, 11266, .inl v_kept_47))] → va_S A s.heap H_b47 locs_b47 → lv_has ls_b47 3 [] → W p l e ({ frames := 0, cells := 0, slots := 0, locals := 0 } : Room) s m ([.ref h0, .int p1, .int p2]).toArray below meth c H_b47 locs_b47 0 0 QQ (F0 m 47 ls_b47 []) := by
    intro v_stackCount_47 v_stack_47 v_kept_47 H_b47 locs_b47 ls_b47 w_b47 hP_b47 hD_b47 hS_b47 hl_b47
    unfold w_X3_push_47 at w_b47
    rw [hQQ]
    exact W.vret hx hb hr (fun t9 ht9 hW9 => ⟨⟨0, rfl, rfl, ⟨v_stackCount_47, v_stack_47, v_kept_47, w_b47, by rw [ht9]; exact hP_b47, hD_b47⟩⟩, hS_b47.F ht9⟩) hS_b47.2.2 dX3_push_47
  refine lv_if_lt (tgt := 47) hx hb dX3_push_4 (by decide) (fun c_1 => ?_) (fun c_1 => ?_)
  · exact k_47 v_stackCount v_stack v_kept _ _ _ (w.1 c_1) hP hD hS (lv_sub hl [] rfl)
  · refine lv_aload_n hx hb dX3_push_7 rfl (lv_at hl 0 rfl) ?_
    refine va_get (D := (dC, dI)) (ci := 6) (v := .int v_stackCount) (C := RX3) (T := TX3) (N := 17) hx hb ht inX3 hown hK hP 0 rfl rfl 16 (by decide) (ht _ tw_635) (fun _ h9 => h9) rfl dX3_push_8 ?_
    refine lv_sipush (v := 11266) hx hb dX3_push_11 (by decide) ?_
    refine lv_icmp_ge (tgt := 47) hx hb dX3_push_14 (by decide) (fun c_2 => ?_) (fun c_2 => ?_)
    · exact k_47 v_stackCount v_stack v_kept _ _ _ ((w.2 c_1).1 c_2) hP hD hS (lv_sub hl [] rfl)
    · refine lv_aload_n hx hb dX3_push_17 rfl (lv_at hl 0 rfl) ?_
      refine va_get (D := (dC, dI)) (ci := 6) (v := .ref h1) (C := RX3) (T := TX3) (N := 17) hx hb ht inX3 hown hK hP 0 rfl rfl 14 (by decide) (ht _ tw_633) (fun _ h9 => h9) rfl dX3_push_18 ?_
      refine lv_aload_n hx hb dX3_push_21 rfl (lv_at hl 0 rfl) ?_
      refine va_get (D := (dC, dI)) (ci := 6) (v := .int v_stackCount) (C := RX3) (T := TX3) (N := 17) hx hb ht inX3 hown hK hP 0 rfl rfl 16 (by decide) (ht _ tw_635) (fun _ h9 => h9) rfl dX3_push_22 ?_
      refine lv_iload_n hx hb dX3_push_25 rfl (lv_at hl 1 rfl) ?_
      refine va_iast hx hb hK hP hD hS 1 0 rfl rfl (i := v_stackCount) ((w.2 c_1).2 c_2).1 dX3_push_26 (fun H_3 locs_3 hP_3 hD_3 hS_3 => ?_)
      obtain ⟨g_3, hg_3⟩ : ∃ g : Nat → Int32, g = upd v_stack v_stackCount.toNatClampNeg p1 := ⟨_, rfl⟩
      have hP_3 : va_P (dC, dI) vwCl [(h0, .inr (6, oX3 (.ref h3) (.ref h4) v_width (.ref h5) (.ref h6) (.ref h7) v_nowCount (.ref h8) (.ref h9) v_nextCount (.ref h10) (.ref h11) v_stamp (.ref h12) (.ref h1) (.ref h2) v_stackCount)), (h1, .inl (k0, 11266, .inl g_3)), (h2, .inl (k1, 11266, .inl v_kept))] H_3 := by rw [hg_3]; exact hP_3
      have hD_3 : va_D A [(h0, .inr (6, oX3 (.ref h3) (.ref h4) v_width (.ref h5) (.ref h6) (.ref h7) v_nowCount (.ref h8) (.ref h9) v_nextCount (.ref h10) (.ref h11) v_stamp (.ref h12) (.ref h1) (.ref h2) v_stackCount)), (h1, .inl (k0, 11266, .inl g_3)), (h2, .inl (k1, 11266, .inl v_kept))] := by rw [hg_3]; exact hD_3
      refine lv_aload_n hx hb dX3_push_27 rfl (lv_at hl 0 rfl) ?_
      refine va_get (D := (dC, dI)) (ci := 6) (v := .ref h2) (C := RX3) (T := TX3) (N := 17) hx hb ht inX3 hown hK hP_3 0 rfl rfl 15 (by decide) (ht _ tw_634) (fun _ h9 => h9) rfl dX3_push_28 ?_
      refine lv_aload_n hx hb dX3_push_31 rfl (lv_at hl 0 rfl) ?_
      refine va_get (D := (dC, dI)) (ci := 6) (v := .int v_stackCount) (C := RX3) (T := TX3) (N := 17) hx hb ht inX3 hown hK hP_3 0 rfl rfl 16 (by decide) (ht _ tw_635) (fun _ h9 => h9) rfl dX3_push_32 ?_
      refine lv_iload_n hx hb dX3_push_35 rfl (lv_at hl 2 rfl) ?_
      refine va_iast hx hb hK hP_3 hD_3 hS_3 2 1 rfl rfl (i := v_stackCount) ((((w.2 c_1).2 c_2).2) g_3 hg_3).1 dX3_push_36 (fun H_4 locs_4 hP_4 hD_4 hS_4 => ?_)
      obtain ⟨g_4, hg_4⟩ : ∃ g : Nat → Int32, g = upd v_kept v_stackCount.toNatClampNeg p2 := ⟨_, rfl⟩
      have hP_4 : va_P (dC, dI) vwCl [(h0, .inr (6, oX3 (.ref h3) (.ref h4) v_width (.ref h5) (.ref h6) (.ref h7) v_nowCount (.ref h8) (.ref h9) v_nextCount (.ref h10) (.ref h11) v_stamp (.ref h12) (.ref h1) (.ref h2) v_stackCount)), (h1, .inl (k0, 11266, .inl g_3)), (h2, .inl (k1, 11266, .inl g_4))] H_4 := by rw [hg_4]; exact hP_4
      have hD_4 : va_D A [(h0, .inr (6, oX3 (.ref h3) (.ref h4) v_width (.ref h5) (.ref h6) (.ref h7) v_nowCount (.ref h8) (.ref h9) v_nextCount (.ref h10) (.ref h11) v_stamp (.ref h12) (.ref h1) (.ref h2) v_stackCount)), (h1, .inl (k0, 11266, .inl g_3)), (h2, .inl (k1, 11266, .inl g_4))] := by rw [hg_4]; exact hD_4
      refine lv_aload_n hx hb dX3_push_37 rfl (lv_at hl 0 rfl) ?_
      refine lv_dup hx hb dX3_push_38 rfl ?_
      refine va_get (D := (dC, dI)) (ci := 6) (v := .int v_stackCount) (C := RX3) (T := TX3) (N := 17) hx hb ht inX3 hown hK hP_4 0 rfl rfl 16 (by decide) (ht _ tw_635) (fun _ h9 => h9) rfl dX3_push_39 ?_
      refine lv_iconst (v := 1) hx hb dX3_push_42 (by decide) ?_
      refine lv_iadd hx hb dX3_push_43 ?_
      refine lv_topi (fun x_5 ex_5 => ?_)
      have ex_5 : x_5 = v_stackCount + (1 : Int32) := ex_5
      refine va_put (D := (dC, dI)) (ci := 6) (v := .int x_5) (ty := .int) (C := RX3) (T := TX3) (N := 17) hx hb ht inX3 tyX3 tyX3_ok nmX3 hown hK hP_4 hD_4 hS_4 0 rfl rfl 16 (by decide) (ht _ tw_635) (fun _ h9 => h9) rfl (by decide +kernel) rfl rfl (Nat.le_of_ble_eq_true rfl) dX3_push_44 (fun H_6 locs_6 hP_6 hD_6 hS_6 => ?_)
      have hP_6 : va_P (dC, dI) vwCl [(h0, .inr (6, oX3 (.ref h3) (.ref h4) v_width (.ref h5) (.ref h6) (.ref h7) v_nowCount (.ref h8) (.ref h9) v_nextCount (.ref h10) (.ref h11) v_stamp (.ref h12) (.ref h1) (.ref h2) x_5)), (h1, .inl (k0, 11266, .inl g_3)), (h2, .inl (k1, 11266, .inl g_4))] H_6 := hP_6
      have hD_6 : va_D A [(h0, .inr (6, oX3 (.ref h3) (.ref h4) v_width (.ref h5) (.ref h6) (.ref h7) v_nowCount (.ref h8) (.ref h9) v_nextCount (.ref h10) (.ref h11) v_stamp (.ref h12) (.ref h1) (.ref h2) x_5)), (h1, .inl (k0, 11266, .inl g_3)), (h2, .inl (k1, 11266, .inl g_4))] := hD_6
      have w_7 := ((((((w.2 c_1).2 c_2).2) g_3 hg_3).2) g_4 hg_4) x_5 ex_5
      exact k_47 x_5 g_3 g_4 _ _ _ w_7 hP_6 hD_6 hS_6 (lv_sub hl [] rfl)
def w_X3_exchangeLists (v_nextCount : Int32) (v_stamp : Int32) (Q : Int32 → Int32 → Int32 → Prop) : Prop :=
  ∀ x_9 : Int32, x_9 = v_stamp + (1 : Int32) → Q  v_nextCount 0 x_9
set_option maxHeartbeats 4000000 in
set_option maxRecDepth 100000 in
theorem mt_X3_exchangeLists (l : Launch) (dC : Nat → ClassId) (dI : Nat → Nat → Nat) (h0 h1 h2 h3 h4 h5 h6 h7 h8 h9 h10 h11 h12 : Nat) (v_width : Int32) (v_nowCount : Int32) (v_nextCount : Int32) (v_stamp : Int32) (v_stackCount : Int32) (Q : Int32 → Int32 → Int32 → Prop) (w : w_X3_exchangeLists v_nextCount v_stamp Q) (sz : Nat) : Met l yX3_exchangeLists (WS yX3_exchangeLists cX3_exchangeLists 3 none) ({ frames := 0, cells := 0, slots := 0, locals := 0 } : Room) (va_Pc [.ref h0] (fun U => U.heap.size = sz ∧ va_P (dC, dI) vwCl [(h0, .inr (6, oX3 (.ref h1) (.ref h2) v_width (.ref h3) (.ref h4) (.ref h5) v_nowCount (.ref h6) (.ref h7) v_nextCount (.ref h8) (.ref h9) v_stamp (.ref h10) (.ref h11) (.ref h12) v_stackCount))] U.heap ∧ va_K (dC, dI) vwCl [] U ∧ va_D (fun _ => True) [(h0, .inr (6, oX3 (.ref h1) (.ref h2) v_width (.ref h3) (.ref h4) (.ref h5) v_nowCount (.ref h6) (.ref h7) v_nextCount (.ref h8) (.ref h9) v_stamp (.ref h10) (.ref h11) (.ref h12) v_stackCount))])) (va_Qv (fun (u : Nat) => u = 0) (fun (_ : Nat) (t : State) => ∃ (ov_nowCount : Int32), ∃ (ov_nextCount : Int32), ∃ (ov_stamp : Int32), (Q ov_nowCount ov_nextCount ov_stamp) ∧ va_P (dC, dI) vwCl [(h0, .inr (6, oX3 (.ref h1) (.ref h2) v_width (.ref h3) (.ref h6) (.ref h7) ov_nowCount (.ref h4) (.ref h5) ov_nextCount (.ref h8) (.ref h9) ov_stamp (.ref h10) (.ref h11) (.ref h12) v_stackCount))] t.heap ∧ va_D (va_A [(h0, .inr (6, oX3 (.ref h1) (.ref h2) v_width (.ref h3) (.ref h4) (.ref h5) v_nowCount (.ref h6) (.ref h7) v_nextCount (.ref h8) (.ref h9) v_stamp (.ref h10) (.ref h11) (.ref h12) v_stackCount))] sz) [(h0, .inr (6, oX3 (.ref h1) (.ref h2) v_width (.ref h3) (.ref h6) (.ref h7) ov_nowCount (.ref h4) (.ref h5) ov_nextCount (.ref h8) (.ref h9) ov_stamp (.ref h10) (.ref h11) (.ref h12) v_stackCount))]) (va_A [(h0, .inr (6, oX3 (.ref h1) (.ref h2) v_width (.ref h3) (.ref h4) (.ref h5) v_nowCount (.ref h6) (.ref h7) v_nextCount (.ref h8) (.ref h9) v_stamp (.ref h10) (.ref h11) (.ref h12) v_stackCount))] sz)) 0 0 (va_A [(h0, .inr (6, oX3 (.ref h1) (.ref h2) v_width (.ref h3) (.ref h4) (.ref h5) v_nowCount (.ref h6) (.ref h7) v_nextCount (.ref h8) (.ref h9) v_stamp (.ref h10) (.ref h11) (.ref h12) v_stackCount))] sz) := by
  refine Met.ofW (cc := cX3_exchangeLists) (maxL := 3) (ret := none) (by decide) rfl ?_
  intro p e s m args below meth c s₁ B hml hv
  obtain ⟨rfl, hsz, hP, hK, hD0⟩ := hv
  have hx := B.exec
  have hb := B.bytes
  have hr := B.returns
  have hts := atoms_spec (ws := WS yX3_exchangeLists cX3_exchangeLists 3 none) B.pre
  have ht : ∀ w ∈ TW, w.before _ s = true := fun w h => hts w (List.mem_cons_of_mem _ h)
  have hown : s.vm.findClass "PatternWorkshop$Parallel" = some m.cls := findClass_of_methodNamed B.named
  have hlocks := B.notSynchronized
  subst hsz
  have hD := hD0.self (sz := s.heap.size)
  generalize hAe : va_A [(h0, .inr (6, oX3 (.ref h1) (.ref h2) v_width (.ref h3) (.ref h4) (.ref h5) v_nowCount (.ref h6) (.ref h7) v_nextCount (.ref h8) (.ref h9) v_stamp (.ref h10) (.ref h11) (.ref h12) v_stackCount))] s.heap.size = A at hD ⊢
  have hA : ∀ q : Nat, s.heap.size ≤ q → A q := fun q h => by rw [← hAe]; exact Or.inr h
  have hS : va_S A s.heap s.heap [] := va_S.rf
  have hP : va_P (dC, dI) vwCl [(h0, .inr (6, oX3 (.ref h1) (.ref h2) v_width (.ref h3) (.ref h4) (.ref h5) v_nowCount (.ref h6) (.ref h7) v_nextCount (.ref h8) (.ref h9) v_stamp (.ref h10) (.ref h11) (.ref h12) v_stackCount))] s.heap := hP
  have hl := lv_entry ([.ref h0]) (n := 3) (Nat.le_of_ble_eq_true rfl)
  rw [lg_entry_eq]
  generalize (lg_sl ([.ref h0]) ++ List.replicate (3 - (lg_sl ([.ref h0])).length) Slot.unset).toArray = ls at hl ⊢
  have hl : lv_has ls 3 [(0, .ref h0)] := hl
  clear hD0
  obtain ⟨QQ, hQQ⟩ : ∃ QQ, QQ = MQ below (va_Qv (fun (u : Nat) => u = 0) (fun (_ : Nat) (t : State) => ∃ (ov_nowCount : Int32), ∃ (ov_nextCount : Int32), ∃ (ov_stamp : Int32), (Q ov_nowCount ov_nextCount ov_stamp) ∧ va_P (dC, dI) vwCl [(h0, .inr (6, oX3 (.ref h1) (.ref h2) v_width (.ref h3) (.ref h6) (.ref h7) ov_nowCount (.ref h4) (.ref h5) ov_nextCount (.ref h8) (.ref h9) ov_stamp (.ref h10) (.ref h11) (.ref h12) v_stackCount))] t.heap ∧ va_D A [(h0, .inr (6, oX3 (.ref h1) (.ref h2) v_width (.ref h3) (.ref h6) (.ref h7) ov_nowCount (.ref h4) (.ref h5) ov_nextCount (.ref h8) (.ref h9) ov_stamp (.ref h10) (.ref h11) (.ref h12) v_stackCount))]) A) ([.ref h0]).toArray s 0 0 A := ⟨_, rfl⟩
  show W p l e ({ frames := 0, cells := 0, slots := 0, locals := 0 } : Room) s m ([.ref h0]).toArray below meth c s.heap [] 0 0 (MQ below (va_Qv (fun (u : Nat) => u = 0) (fun (_ : Nat) (t : State) => ∃ (ov_nowCount : Int32), ∃ (ov_nextCount : Int32), ∃ (ov_stamp : Int32), (Q ov_nowCount ov_nextCount ov_stamp) ∧ va_P (dC, dI) vwCl [(h0, .inr (6, oX3 (.ref h1) (.ref h2) v_width (.ref h3) (.ref h6) (.ref h7) ov_nowCount (.ref h4) (.ref h5) ov_nextCount (.ref h8) (.ref h9) ov_stamp (.ref h10) (.ref h11) (.ref h12) v_stackCount))] t.heap ∧ va_D A [(h0, .inr (6, oX3 (.ref h1) (.ref h2) v_width (.ref h3) (.ref h6) (.ref h7) ov_nowCount (.ref h4) (.ref h5) ov_nextCount (.ref h8) (.ref h9) ov_stamp (.ref h10) (.ref h11) (.ref h12) v_stackCount))]) A) ([.ref h0]).toArray s 0 0 A) (F0 m 0 ls [])
  rw [← hQQ]
  unfold w_X3_exchangeLists at w
  refine lv_aload_n hx hb dX3_exchangeLists_0 rfl (lv_at hl 0 rfl) ?_
  refine va_get (D := (dC, dI)) (ci := 6) (v := .ref h4) (C := RX3) (T := TX3) (N := 17) hx hb ht inX3 hown hK hP 0 rfl rfl 4 (by decide) (ht _ tw_623) (fun _ h9 => h9) rfl dX3_exchangeLists_1 ?_
  refine lv_astore_n (lv' := [(1, .ref h4), (0, .ref h0)]) hx hb dX3_exchangeLists_4 rfl hl (by decide) rfl (fun ls_1 hl_1 => ?_)
  clear hl
  refine lv_aload_n hx hb dX3_exchangeLists_5 rfl (lv_at hl_1 1 rfl) ?_
  refine va_get (D := (dC, dI)) (ci := 6) (v := .ref h5) (C := RX3) (T := TX3) (N := 17) hx hb ht inX3 hown hK hP 0 rfl rfl 5 (by decide) (ht _ tw_624) (fun _ h9 => h9) rfl dX3_exchangeLists_6 ?_
  refine lv_astore_n (lv' := [(2, .ref h5), (1, .ref h4), (0, .ref h0)]) hx hb dX3_exchangeLists_9 rfl hl_1 (by decide) rfl (fun ls_2 hl_2 => ?_)
  clear hl_1
  refine lv_aload_n hx hb dX3_exchangeLists_10 rfl (lv_at hl_2 2 rfl) ?_
  refine lv_aload_n hx hb dX3_exchangeLists_11 rfl (lv_at hl_2 2 rfl) ?_
  refine va_get (D := (dC, dI)) (ci := 6) (v := .ref h6) (C := RX3) (T := TX3) (N := 17) hx hb ht inX3 hown hK hP 0 rfl rfl 7 (by decide) (ht _ tw_626) (fun _ h9 => h9) rfl dX3_exchangeLists_12 ?_
  refine va_put (D := (dC, dI)) (ci := 6) (v := .ref h6) (ty := .array .int) (C := RX3) (T := TX3) (N := 17) hx hb ht inX3 tyX3 tyX3_ok nmX3 hown hK hP hD hS 0 rfl rfl 4 (by decide) (ht _ tw_623) (fun _ h9 => h9) rfl (by decide +kernel) rfl rfl (Nat.le_of_ble_eq_true rfl) dX3_exchangeLists_15 (fun H_3 locs_3 hP_3 hD_3 hS_3 => ?_)
  have hP_3 : va_P (dC, dI) vwCl [(h0, .inr (6, oX3 (.ref h1) (.ref h2) v_width (.ref h3) (.ref h6) (.ref h5) v_nowCount (.ref h6) (.ref h7) v_nextCount (.ref h8) (.ref h9) v_stamp (.ref h10) (.ref h11) (.ref h12) v_stackCount))] H_3 := hP_3
  have hD_3 : va_D A [(h0, .inr (6, oX3 (.ref h1) (.ref h2) v_width (.ref h3) (.ref h6) (.ref h5) v_nowCount (.ref h6) (.ref h7) v_nextCount (.ref h8) (.ref h9) v_stamp (.ref h10) (.ref h11) (.ref h12) v_stackCount))] := hD_3
  refine lv_aload_n hx hb dX3_exchangeLists_18 rfl (lv_at hl_2 2 rfl) ?_
  refine lv_aload_n hx hb dX3_exchangeLists_19 rfl (lv_at hl_2 2 rfl) ?_
  refine va_get (D := (dC, dI)) (ci := 6) (v := .ref h7) (C := RX3) (T := TX3) (N := 17) hx hb ht inX3 hown hK hP_3 0 rfl rfl 8 (by decide) (ht _ tw_627) (fun _ h9 => h9) rfl dX3_exchangeLists_20 ?_
  refine va_put (D := (dC, dI)) (ci := 6) (v := .ref h7) (ty := .array .int) (C := RX3) (T := TX3) (N := 17) hx hb ht inX3 tyX3 tyX3_ok nmX3 hown hK hP_3 hD_3 hS_3 0 rfl rfl 5 (by decide) (ht _ tw_624) (fun _ h9 => h9) rfl (by decide +kernel) rfl rfl (Nat.le_of_ble_eq_true rfl) dX3_exchangeLists_23 (fun H_4 locs_4 hP_4 hD_4 hS_4 => ?_)
  have hP_4 : va_P (dC, dI) vwCl [(h0, .inr (6, oX3 (.ref h1) (.ref h2) v_width (.ref h3) (.ref h6) (.ref h7) v_nowCount (.ref h6) (.ref h7) v_nextCount (.ref h8) (.ref h9) v_stamp (.ref h10) (.ref h11) (.ref h12) v_stackCount))] H_4 := hP_4
  have hD_4 : va_D A [(h0, .inr (6, oX3 (.ref h1) (.ref h2) v_width (.ref h3) (.ref h6) (.ref h7) v_nowCount (.ref h6) (.ref h7) v_nextCount (.ref h8) (.ref h9) v_stamp (.ref h10) (.ref h11) (.ref h12) v_stackCount))] := hD_4
  refine lv_aload_n hx hb dX3_exchangeLists_26 rfl (lv_at hl_2 2 rfl) ?_
  refine lv_aload_n hx hb dX3_exchangeLists_27 rfl (lv_at hl_2 2 rfl) ?_
  refine va_get (D := (dC, dI)) (ci := 6) (v := .int v_nextCount) (C := RX3) (T := TX3) (N := 17) hx hb ht inX3 hown hK hP_4 0 rfl rfl 9 (by decide) (ht _ tw_628) (fun _ h9 => h9) rfl dX3_exchangeLists_28 ?_
  refine va_put (D := (dC, dI)) (ci := 6) (v := .int v_nextCount) (ty := .int) (C := RX3) (T := TX3) (N := 17) hx hb ht inX3 tyX3 tyX3_ok nmX3 hown hK hP_4 hD_4 hS_4 0 rfl rfl 6 (by decide) (ht _ tw_625) (fun _ h9 => h9) rfl (by decide +kernel) rfl rfl (Nat.le_of_ble_eq_true rfl) dX3_exchangeLists_31 (fun H_5 locs_5 hP_5 hD_5 hS_5 => ?_)
  have hP_5 : va_P (dC, dI) vwCl [(h0, .inr (6, oX3 (.ref h1) (.ref h2) v_width (.ref h3) (.ref h6) (.ref h7) v_nextCount (.ref h6) (.ref h7) v_nextCount (.ref h8) (.ref h9) v_stamp (.ref h10) (.ref h11) (.ref h12) v_stackCount))] H_5 := hP_5
  have hD_5 : va_D A [(h0, .inr (6, oX3 (.ref h1) (.ref h2) v_width (.ref h3) (.ref h6) (.ref h7) v_nextCount (.ref h6) (.ref h7) v_nextCount (.ref h8) (.ref h9) v_stamp (.ref h10) (.ref h11) (.ref h12) v_stackCount))] := hD_5
  refine lv_aload_n hx hb dX3_exchangeLists_34 rfl (lv_at hl_2 2 rfl) ?_
  refine lv_aload_n hx hb dX3_exchangeLists_35 rfl (lv_at hl_2 1 rfl) ?_
  refine va_put (D := (dC, dI)) (ci := 6) (v := .ref h4) (ty := .array .int) (C := RX3) (T := TX3) (N := 17) hx hb ht inX3 tyX3 tyX3_ok nmX3 hown hK hP_5 hD_5 hS_5 0 rfl rfl 7 (by decide) (ht _ tw_626) (fun _ h9 => h9) rfl (by decide +kernel) rfl rfl (Nat.le_of_ble_eq_true rfl) dX3_exchangeLists_36 (fun H_6 locs_6 hP_6 hD_6 hS_6 => ?_)
  have hP_6 : va_P (dC, dI) vwCl [(h0, .inr (6, oX3 (.ref h1) (.ref h2) v_width (.ref h3) (.ref h6) (.ref h7) v_nextCount (.ref h4) (.ref h7) v_nextCount (.ref h8) (.ref h9) v_stamp (.ref h10) (.ref h11) (.ref h12) v_stackCount))] H_6 := hP_6
  have hD_6 : va_D A [(h0, .inr (6, oX3 (.ref h1) (.ref h2) v_width (.ref h3) (.ref h6) (.ref h7) v_nextCount (.ref h4) (.ref h7) v_nextCount (.ref h8) (.ref h9) v_stamp (.ref h10) (.ref h11) (.ref h12) v_stackCount))] := hD_6
  refine lv_aload_n hx hb dX3_exchangeLists_39 rfl (lv_at hl_2 2 rfl) ?_
  refine lv_aload_n hx hb dX3_exchangeLists_40 rfl (lv_at hl_2 0 rfl) ?_
  refine va_put (D := (dC, dI)) (ci := 6) (v := .ref h5) (ty := .array .int) (C := RX3) (T := TX3) (N := 17) hx hb ht inX3 tyX3 tyX3_ok nmX3 hown hK hP_6 hD_6 hS_6 0 rfl rfl 8 (by decide) (ht _ tw_627) (fun _ h9 => h9) rfl (by decide +kernel) rfl rfl (Nat.le_of_ble_eq_true rfl) dX3_exchangeLists_41 (fun H_7 locs_7 hP_7 hD_7 hS_7 => ?_)
  have hP_7 : va_P (dC, dI) vwCl [(h0, .inr (6, oX3 (.ref h1) (.ref h2) v_width (.ref h3) (.ref h6) (.ref h7) v_nextCount (.ref h4) (.ref h5) v_nextCount (.ref h8) (.ref h9) v_stamp (.ref h10) (.ref h11) (.ref h12) v_stackCount))] H_7 := hP_7
  have hD_7 : va_D A [(h0, .inr (6, oX3 (.ref h1) (.ref h2) v_width (.ref h3) (.ref h6) (.ref h7) v_nextCount (.ref h4) (.ref h5) v_nextCount (.ref h8) (.ref h9) v_stamp (.ref h10) (.ref h11) (.ref h12) v_stackCount))] := hD_7
  refine lv_aload_n hx hb dX3_exchangeLists_44 rfl (lv_at hl_2 2 rfl) ?_
  refine lv_iconst (v := 0) hx hb dX3_exchangeLists_45 (by decide) ?_
  refine va_put (D := (dC, dI)) (ci := 6) (v := .int 0) (ty := .int) (C := RX3) (T := TX3) (N := 17) hx hb ht inX3 tyX3 tyX3_ok nmX3 hown hK hP_7 hD_7 hS_7 0 rfl rfl 9 (by decide) (ht _ tw_628) (fun _ h9 => h9) rfl (by decide +kernel) rfl rfl (Nat.le_of_ble_eq_true rfl) dX3_exchangeLists_46 (fun H_8 locs_8 hP_8 hD_8 hS_8 => ?_)
  have hP_8 : va_P (dC, dI) vwCl [(h0, .inr (6, oX3 (.ref h1) (.ref h2) v_width (.ref h3) (.ref h6) (.ref h7) v_nextCount (.ref h4) (.ref h5) 0 (.ref h8) (.ref h9) v_stamp (.ref h10) (.ref h11) (.ref h12) v_stackCount))] H_8 := hP_8
  have hD_8 : va_D A [(h0, .inr (6, oX3 (.ref h1) (.ref h2) v_width (.ref h3) (.ref h6) (.ref h7) v_nextCount (.ref h4) (.ref h5) 0 (.ref h8) (.ref h9) v_stamp (.ref h10) (.ref h11) (.ref h12) v_stackCount))] := hD_8
  refine lv_aload_n hx hb dX3_exchangeLists_49 rfl (lv_at hl_2 2 rfl) ?_
  refine lv_dup hx hb dX3_exchangeLists_50 rfl ?_
  refine va_get (D := (dC, dI)) (ci := 6) (v := .int v_stamp) (C := RX3) (T := TX3) (N := 17) hx hb ht inX3 hown hK hP_8 0 rfl rfl 12 (by decide) (ht _ tw_631) (fun _ h9 => h9) rfl dX3_exchangeLists_51 ?_
  refine lv_iconst (v := 1) hx hb dX3_exchangeLists_54 (by decide) ?_
  refine lv_iadd hx hb dX3_exchangeLists_55 ?_
  refine lv_topi (fun x_9 ex_9 => ?_)
  have ex_9 : x_9 = v_stamp + (1 : Int32) := ex_9
  refine va_put (D := (dC, dI)) (ci := 6) (v := .int x_9) (ty := .int) (C := RX3) (T := TX3) (N := 17) hx hb ht inX3 tyX3 tyX3_ok nmX3 hown hK hP_8 hD_8 hS_8 0 rfl rfl 12 (by decide) (ht _ tw_631) (fun _ h9 => h9) rfl (by decide +kernel) rfl rfl (Nat.le_of_ble_eq_true rfl) dX3_exchangeLists_56 (fun H_10 locs_10 hP_10 hD_10 hS_10 => ?_)
  have hP_10 : va_P (dC, dI) vwCl [(h0, .inr (6, oX3 (.ref h1) (.ref h2) v_width (.ref h3) (.ref h6) (.ref h7) v_nextCount (.ref h4) (.ref h5) 0 (.ref h8) (.ref h9) x_9 (.ref h10) (.ref h11) (.ref h12) v_stackCount))] H_10 := hP_10
  have hD_10 : va_D A [(h0, .inr (6, oX3 (.ref h1) (.ref h2) v_width (.ref h3) (.ref h6) (.ref h7) v_nextCount (.ref h4) (.ref h5) 0 (.ref h8) (.ref h9) x_9 (.ref h10) (.ref h11) (.ref h12) v_stackCount))] := hD_10
  rw [hQQ]
  exact W.vret hx hb hr (fun t9 ht9 hW9 => ⟨⟨0, rfl, rfl, ⟨v_nextCount, 0, x_9, w x_9 ex_9, by rw [ht9]; exact hP_10, hD_10⟩⟩, hS_10.F ht9⟩) hS_10.2.2 dX3_exchangeLists_59
def w_X3_stopAt_113 (Q : Int32 → (Nat → Int32) → (Nat → Int32) → (Nat → Int32) → Prop) (v_nextCount_113 : Int32) (v_nextAt_113 : Nat → Int32) (v_nextCells_113 : Nat → Int32) (v_waits_113 : Nat → Int32) : Prop :=
  Q  v_nextCount_113 v_nextAt_113 v_nextCells_113 v_waits_113
def w_X3_stopAt_29 (p1 : Int32) (v_stamp : Int32) (v_cells : Nat → Int32) (Q : Int32 → (Nat → Int32) → (Nat → Int32) → (Nat → Int32) → Prop) (s0_29 : Int32) (v_nextCount_29 : Int32) (v_nextAt_29 : Nat → Int32) (v_nextCells_29 : Nat → Int32) (v_waits_29 : Nat → Int32) : Prop :=
  ((¬ s0_29 = 0) → w_X3_stopAt_113 Q v_nextCount_29 v_nextAt_29 v_nextCells_29 v_waits_29) ∧ ((s0_29 = 0) → ((p1 < 0) → w_X3_stopAt_113 Q v_nextCount_29 v_nextAt_29 v_nextCells_29 v_waits_29) ∧ ((¬ p1 < 0) → ((512 ≤ p1) → w_X3_stopAt_113 Q v_nextCount_29 v_nextAt_29 v_nextCells_29 v_waits_29) ∧ ((¬ 512 ≤ p1) → ((v_nextCount_29 < 0) → w_X3_stopAt_113 Q v_nextCount_29 v_nextAt_29 v_nextCells_29 v_waits_29) ∧ ((¬ v_nextCount_29 < 0) → ((256 ≤ v_nextCount_29) → w_X3_stopAt_113 Q v_nextCount_29 v_nextAt_29 v_nextCells_29 v_waits_29) ∧ ((¬ 256 ≤ v_nextCount_29) → vp_in p1 512 ∧ ∀ g_9 : Nat → Int32, g_9 = upd v_waits_29 p1.toNatClampNeg v_stamp → vp_in v_nextCount_29 256 ∧ ∀ g_10 : Nat → Int32, g_10 = upd v_nextAt_29 v_nextCount_29.toNatClampNeg p1 → ∀ x_11 : Int32, x_11 = v_nextCount_29 * (20 : Int32) → ¬ (0 : Int32) < 0 ∧ ¬ x_11 < 0 ∧ ¬ (20 : Int32) < 0 ∧ (0 : Int32).toNatClampNeg + (20 : Int32).toNatClampNeg ≤ 20 ∧ x_11.toNatClampNeg + (20 : Int32).toNatClampNeg ≤ 5120 ∧ ∀ g_12 : Nat → Int32, g_12 = va_cpy v_cells v_nextCells_29 (0 : Int32).toNatClampNeg x_11.toNatClampNeg (20 : Int32).toNatClampNeg → ∀ x_14 : Int32, x_14 = v_nextCount_29 + (1 : Int32) → w_X3_stopAt_113 Q x_14 g_10 g_12 g_9)))))
def w_X3_stopAt_28 (p1 : Int32) (v_stamp : Int32) (v_cells : Nat → Int32) (Q : Int32 → (Nat → Int32) → (Nat → Int32) → (Nat → Int32) → Prop) (v_nextCount_28 : Int32) (v_nextAt_28 : Nat → Int32) (v_nextCells_28 : Nat → Int32) (v_waits_28 : Nat → Int32) : Prop :=
  w_X3_stopAt_29 p1 v_stamp v_cells Q 0 v_nextCount_28 v_nextAt_28 v_nextCells_28 v_waits_28
def w_X3_stopAt (p1 : Int32) (v_nextCount : Int32) (v_stamp : Int32) (v_nextAt : Nat → Int32) (v_nextCells : Nat → Int32) (v_waits : Nat → Int32) (v_cells : Nat → Int32) (Q : Int32 → (Nat → Int32) → (Nat → Int32) → (Nat → Int32) → Prop) : Prop :=
  ((p1 < 0) → w_X3_stopAt_28 p1 v_stamp v_cells Q v_nextCount v_nextAt v_nextCells v_waits) ∧ ((¬ p1 < 0) → ((512 ≤ p1) → w_X3_stopAt_28 p1 v_stamp v_cells Q v_nextCount v_nextAt v_nextCells v_waits) ∧ ((¬ 512 ≤ p1) → vp_in p1 512 ∧ ∀ x_18 : Int32, x_18 = v_waits p1.toNatClampNeg → ((¬ x_18 = v_stamp) → w_X3_stopAt_28 p1 v_stamp v_cells Q v_nextCount v_nextAt v_nextCells v_waits) ∧ ((x_18 = v_stamp) → w_X3_stopAt_29 p1 v_stamp v_cells Q 1 v_nextCount v_nextAt v_nextCells v_waits)))
set_option maxHeartbeats 4000000 in
set_option maxRecDepth 100000 in
theorem mt_X3_stopAt (l : Launch) (dC : Nat → ClassId) (dI : Nat → Nat → Nat) (h0 h1 h2 h3 h4 h5 h6 h7 h8 h9 h10 h11 h12 : Nat) (k0 k1 k2 k3 : ClassId) (p1 : Int32) (v_width : Int32) (v_nowCount : Int32) (v_nextCount : Int32) (v_stamp : Int32) (v_stackCount : Int32) (v_nextAt : Nat → Int32) (v_nextCells : Nat → Int32) (v_waits : Nat → Int32) (v_cells : Nat → Int32) (Q : Int32 → (Nat → Int32) → (Nat → Int32) → (Nat → Int32) → Prop) (w : w_X3_stopAt p1 v_nextCount v_stamp v_nextAt v_nextCells v_waits v_cells Q) (sz : Nat) : Met l yX3_stopAt (WS yX3_stopAt cX3_stopAt 3 none) ({ frames := 1, cells := 0, slots := 0, locals := 20 } : Room) (va_Pc [.ref h0, .int p1] (fun U => U.heap.size = sz ∧ va_P (dC, dI) vwCl [(h0, .inr (6, oX3 (.ref h5) (.ref h6) v_width (.ref h7) (.ref h8) (.ref h9) v_nowCount (.ref h1) (.ref h2) v_nextCount (.ref h10) (.ref h3) v_stamp (.ref h4) (.ref h11) (.ref h12) v_stackCount)), (h1, .inl (k0, 256, .inl v_nextAt)), (h2, .inl (k1, 5120, .inl v_nextCells)), (h3, .inl (k2, 512, .inl v_waits)), (h4, .inl (k3, 20, .inl v_cells))] U.heap ∧ va_K (dC, dI) vwCl [(k0, .int), (k1, .int), (k2, .int), (k3, .int)] U ∧ va_D (fun _ => True) [(h0, .inr (6, oX3 (.ref h5) (.ref h6) v_width (.ref h7) (.ref h8) (.ref h9) v_nowCount (.ref h1) (.ref h2) v_nextCount (.ref h10) (.ref h3) v_stamp (.ref h4) (.ref h11) (.ref h12) v_stackCount)), (h1, .inl (k0, 256, .inl v_nextAt)), (h2, .inl (k1, 5120, .inl v_nextCells)), (h3, .inl (k2, 512, .inl v_waits)), (h4, .inl (k3, 20, .inl v_cells))])) (va_Qv (fun (u : Nat) => u = 0) (fun (_ : Nat) (t : State) => ∃ (ov_nextCount : Int32), ∃ (ov_nextAt : Nat → Int32), ∃ (ov_nextCells : Nat → Int32), ∃ (ov_waits : Nat → Int32), (Q ov_nextCount ov_nextAt ov_nextCells ov_waits) ∧ va_P (dC, dI) vwCl [(h0, .inr (6, oX3 (.ref h5) (.ref h6) v_width (.ref h7) (.ref h8) (.ref h9) v_nowCount (.ref h1) (.ref h2) ov_nextCount (.ref h10) (.ref h3) v_stamp (.ref h4) (.ref h11) (.ref h12) v_stackCount)), (h1, .inl (k0, 256, .inl ov_nextAt)), (h2, .inl (k1, 5120, .inl ov_nextCells)), (h3, .inl (k2, 512, .inl ov_waits)), (h4, .inl (k3, 20, .inl v_cells))] t.heap ∧ va_D (va_A [(h0, .inr (6, oX3 (.ref h5) (.ref h6) v_width (.ref h7) (.ref h8) (.ref h9) v_nowCount (.ref h1) (.ref h2) v_nextCount (.ref h10) (.ref h3) v_stamp (.ref h4) (.ref h11) (.ref h12) v_stackCount)), (h1, .inl (k0, 256, .inl v_nextAt)), (h2, .inl (k1, 5120, .inl v_nextCells)), (h3, .inl (k2, 512, .inl v_waits)), (h4, .inl (k3, 20, .inl v_cells))] sz) [(h0, .inr (6, oX3 (.ref h5) (.ref h6) v_width (.ref h7) (.ref h8) (.ref h9) v_nowCount (.ref h1) (.ref h2) ov_nextCount (.ref h10) (.ref h3) v_stamp (.ref h4) (.ref h11) (.ref h12) v_stackCount)), (h1, .inl (k0, 256, .inl ov_nextAt)), (h2, .inl (k1, 5120, .inl ov_nextCells)), (h3, .inl (k2, 512, .inl ov_waits)), (h4, .inl (k3, 20, .inl v_cells))]) (va_A [(h0, .inr (6, oX3 (.ref h5) (.ref h6) v_width (.ref h7) (.ref h8) (.ref h9) v_nowCount (.ref h1) (.ref h2) v_nextCount (.ref h10) (.ref h3) v_stamp (.ref h4) (.ref h11) (.ref h12) v_stackCount)), (h1, .inl (k0, 256, .inl v_nextAt)), (h2, .inl (k1, 5120, .inl v_nextCells)), (h3, .inl (k2, 512, .inl v_waits)), (h4, .inl (k3, 20, .inl v_cells))] sz)) 0 0 (va_A [(h0, .inr (6, oX3 (.ref h5) (.ref h6) v_width (.ref h7) (.ref h8) (.ref h9) v_nowCount (.ref h1) (.ref h2) v_nextCount (.ref h10) (.ref h3) v_stamp (.ref h4) (.ref h11) (.ref h12) v_stackCount)), (h1, .inl (k0, 256, .inl v_nextAt)), (h2, .inl (k1, 5120, .inl v_nextCells)), (h3, .inl (k2, 512, .inl v_waits)), (h4, .inl (k3, 20, .inl v_cells))] sz) := by
  refine Met.ofW (cc := cX3_stopAt) (maxL := 3) (ret := none) (by decide) rfl ?_
  intro p e s m args below meth c s₁ B hml hv
  obtain ⟨rfl, hsz, hP, hK, hD0⟩ := hv
  have hx := B.exec
  have hb := B.bytes
  have hr := B.returns
  have hts := atoms_spec (ws := WS yX3_stopAt cX3_stopAt 3 none) B.pre
  have ht : ∀ w ∈ TW, w.before _ s = true := fun w h => hts w (List.mem_cons_of_mem _ h)
  have hown : s.vm.findClass "PatternWorkshop$Parallel" = some m.cls := findClass_of_methodNamed B.named
  have hlocks := B.notSynchronized
  subst hsz
  have hD := hD0.self (sz := s.heap.size)
  generalize hAe : va_A [(h0, .inr (6, oX3 (.ref h5) (.ref h6) v_width (.ref h7) (.ref h8) (.ref h9) v_nowCount (.ref h1) (.ref h2) v_nextCount (.ref h10) (.ref h3) v_stamp (.ref h4) (.ref h11) (.ref h12) v_stackCount)), (h1, .inl (k0, 256, .inl v_nextAt)), (h2, .inl (k1, 5120, .inl v_nextCells)), (h3, .inl (k2, 512, .inl v_waits)), (h4, .inl (k3, 20, .inl v_cells))] s.heap.size = A at hD ⊢
  have hA : ∀ q : Nat, s.heap.size ≤ q → A q := fun q h => by rw [← hAe]; exact Or.inr h
  have hS : va_S A s.heap s.heap [] := va_S.rf
  have hP : va_P (dC, dI) vwCl [(h0, .inr (6, oX3 (.ref h5) (.ref h6) v_width (.ref h7) (.ref h8) (.ref h9) v_nowCount (.ref h1) (.ref h2) v_nextCount (.ref h10) (.ref h3) v_stamp (.ref h4) (.ref h11) (.ref h12) v_stackCount)), (h1, .inl (k0, 256, .inl v_nextAt)), (h2, .inl (k1, 5120, .inl v_nextCells)), (h3, .inl (k2, 512, .inl v_waits)), (h4, .inl (k3, 20, .inl v_cells))] s.heap := hP
  have hl := lv_entry ([.ref h0, .int p1]) (n := 3) (Nat.le_of_ble_eq_true rfl)
  rw [lg_entry_eq]
  generalize (lg_sl ([.ref h0, .int p1]) ++ List.replicate (3 - (lg_sl ([.ref h0, .int p1])).length) Slot.unset).toArray = ls at hl ⊢
  have hl : lv_has ls 3 [(0, .ref h0), (1, .int p1)] := hl
  clear hD0
  obtain ⟨QQ, hQQ⟩ : ∃ QQ, QQ = MQ below (va_Qv (fun (u : Nat) => u = 0) (fun (_ : Nat) (t : State) => ∃ (ov_nextCount : Int32), ∃ (ov_nextAt : Nat → Int32), ∃ (ov_nextCells : Nat → Int32), ∃ (ov_waits : Nat → Int32), (Q ov_nextCount ov_nextAt ov_nextCells ov_waits) ∧ va_P (dC, dI) vwCl [(h0, .inr (6, oX3 (.ref h5) (.ref h6) v_width (.ref h7) (.ref h8) (.ref h9) v_nowCount (.ref h1) (.ref h2) ov_nextCount (.ref h10) (.ref h3) v_stamp (.ref h4) (.ref h11) (.ref h12) v_stackCount)), (h1, .inl (k0, 256, .inl ov_nextAt)), (h2, .inl (k1, 5120, .inl ov_nextCells)), (h3, .inl (k2, 512, .inl ov_waits)), (h4, .inl (k3, 20, .inl v_cells))] t.heap ∧ va_D A [(h0, .inr (6, oX3 (.ref h5) (.ref h6) v_width (.ref h7) (.ref h8) (.ref h9) v_nowCount (.ref h1) (.ref h2) ov_nextCount (.ref h10) (.ref h3) v_stamp (.ref h4) (.ref h11) (.ref h12) v_stackCount)), (h1, .inl (k0, 256, .inl ov_nextAt)), (h2, .inl (k1, 5120, .inl ov_nextCells)), (h3, .inl (k2, 512, .inl ov_waits)), (h4, .inl (k3, 20, .inl v_cells))]) A) ([.ref h0, .int p1]).toArray s 0 0 A := ⟨_, rfl⟩
  show W p l e ({ frames := 1, cells := 0, slots := 0, locals := 20 } : Room) s m ([.ref h0, .int p1]).toArray below meth c s.heap [] 0 0 (MQ below (va_Qv (fun (u : Nat) => u = 0) (fun (_ : Nat) (t : State) => ∃ (ov_nextCount : Int32), ∃ (ov_nextAt : Nat → Int32), ∃ (ov_nextCells : Nat → Int32), ∃ (ov_waits : Nat → Int32), (Q ov_nextCount ov_nextAt ov_nextCells ov_waits) ∧ va_P (dC, dI) vwCl [(h0, .inr (6, oX3 (.ref h5) (.ref h6) v_width (.ref h7) (.ref h8) (.ref h9) v_nowCount (.ref h1) (.ref h2) ov_nextCount (.ref h10) (.ref h3) v_stamp (.ref h4) (.ref h11) (.ref h12) v_stackCount)), (h1, .inl (k0, 256, .inl ov_nextAt)), (h2, .inl (k1, 5120, .inl ov_nextCells)), (h3, .inl (k2, 512, .inl ov_waits)), (h4, .inl (k3, 20, .inl v_cells))] t.heap ∧ va_D A [(h0, .inr (6, oX3 (.ref h5) (.ref h6) v_width (.ref h7) (.ref h8) (.ref h9) v_nowCount (.ref h1) (.ref h2) ov_nextCount (.ref h10) (.ref h3) v_stamp (.ref h4) (.ref h11) (.ref h12) v_stackCount)), (h1, .inl (k0, 256, .inl ov_nextAt)), (h2, .inl (k1, 5120, .inl ov_nextCells)), (h3, .inl (k2, 512, .inl ov_waits)), (h4, .inl (k3, 20, .inl v_cells))]) A) ([.ref h0, .int p1]).toArray s 0 0 A) (F0 m 0 ls [])
  rw [← hQQ]
  unfold w_X3_stopAt at w
  refine lv_iload_n hx hb dX3_stopAt_0 rfl (lv_at hl 1 rfl) ?_
  have k_29 : ∀ (s0_29 : Int32) (v_nextCount_29 : Int32) (v_nextAt_29 : Nat → Int32) (v_nextCells_29 : Nat → Int32) (v_waits_29 : Nat → Int32), ∀ (H_b29 : Heap) (locs_b29 : List Loc) (ls_b29 : Array Slot), w_X3_stopAt_29 p1 v_stamp v_cells Q s0_29 v_nextCount_29 v_nextAt_29 v_nextCells_29 v_waits_29 → va_P (dC, dI) vwCl [(h0, .inr (6, oX3 (.ref h5) (.ref h6) v_width (.ref h7) (.ref h8) (.ref h9) v_nowCount (.ref h1) (.ref h2) v_nextCount_29 (.ref h10) (.ref h3) v_stamp (.ref h4) (.ref h11) (.ref h12) v_stackCount)), (h1, .inl (k0, 256, .inl v_nextAt_29)), (h2, .inl (k1, 5120, .inl v_nextCells_29)), (h3, .inl (k2, 512, .inl v_waits_29)), (h4, .inl (k3, 20, .inl v_cells))] H_b29 → va_D A [(h0, .inr (6, oX3 (.ref h5) (.ref h6) v_width (.ref h7) (.ref h8) (.ref h9) v_nowCount (.ref h1) (.ref h2) v_nextCount_29 (.ref h10) (.ref h3) v_stamp (.ref h4) (.ref h11) (.ref h12) v_stackCount)), (h1, .inl (k0, 256, .inl v_nextAt_29)), (h2, .inl (k1, 5120, .inl v_nextCells_29)), (h3, .inl (k2, 512, .inl v_waits_29)), (h4, .inl (k3, 20, .inl v_cells))] → va_S A s.heap H_b29 locs_b29 → lv_has ls_b29 3 [(0, .ref h0), (1, .int p1)] → W p l e ({ frames := 1, cells := 0, slots := 0, locals := 20 } : Room) s m ([.ref h0, .int p1]).toArray below meth c H_b29 locs_b29 0 0 QQ (F0 m 29 ls_b29 [.int s0_29]) := by
    intro s0_29 v_nextCount_29 v_nextAt_29 v_nextCells_29 v_waits_29 H_b29 locs_b29 ls_b29 w_b29 hP_b29 hD_b29 hS_b29 hl_b29
    unfold w_X3_stopAt_29 at w_b29
    refine lv_istore_n (lv' := [(2, .int s0_29), (0, .ref h0), (1, .int p1)]) hx hb dX3_stopAt_29 rfl hl_b29 (by decide) rfl (fun ls_1 hl_1 => ?_)
    clear hl_b29
    refine lv_iload_n hx hb dX3_stopAt_30 rfl (lv_at hl_1 0 rfl) ?_
    have k_113 : ∀ (v_nextCount_113 : Int32) (v_nextAt_113 : Nat → Int32) (v_nextCells_113 : Nat → Int32) (v_waits_113 : Nat → Int32), ∀ (H_b113 : Heap) (locs_b113 : List Loc) (ls_b113 : Array Slot), w_X3_stopAt_113 Q v_nextCount_113 v_nextAt_113 v_nextCells_113 v_waits_113 → va_P (dC, dI) vwCl [(h0, .inr (6, oX3 (.ref h5) (.ref h6) v_width (.ref h7) (.ref h8) (.ref h9) v_nowCount (.ref h1) (.ref h2) v_nextCount_113 (.ref h10) (.ref h3) v_stamp (.ref h4) (.ref h11) (.ref h12) v_stackCount)), (h1, .inl (k0, 256, .inl v_nextAt_113)), (h2, .inl (k1, 5120, .inl v_nextCells_113)), (h3, .inl (k2, 512, .inl v_waits_113)), (h4, .inl (k3, 20, .inl v_cells))] H_b113 → va_D A [(h0, .inr (6, oX3 (.ref h5) (.ref h6) v_width (.ref h7) (.ref h8) (.ref h9) v_nowCount (.ref h1) (.ref h2) v_nextCount_113 (.ref h10) (.ref h3) v_stamp (.ref h4) (.ref h11) (.ref h12) v_stackCount)), (h1, .inl (k0, 256, .inl v_nextAt_113)), (h2, .inl (k1, 5120, .inl v_nextCells_113)), (h3, .inl (k2, 512, .inl v_waits_113)), (h4, .inl (k3, 20, .inl v_cells))] → va_S A s.heap H_b113 locs_b113 → lv_has ls_b113 3 [] → W p l e ({ frames := 1, cells := 0, slots := 0, locals := 20 } : Room) s m ([.ref h0, .int p1]).toArray below meth c H_b113 locs_b113 0 0 QQ (F0 m 113 ls_b113 []) := by
      intro v_nextCount_113 v_nextAt_113 v_nextCells_113 v_waits_113 H_b113 locs_b113 ls_b113 w_b113 hP_b113 hD_b113 hS_b113 hl_b113
      unfold w_X3_stopAt_113 at w_b113
      rw [hQQ]
      exact W.vret hx hb hr (fun t9 ht9 hW9 => ⟨⟨0, rfl, rfl, ⟨v_nextCount_113, v_nextAt_113, v_nextCells_113, v_waits_113, w_b113, by rw [ht9]; exact hP_b113, hD_b113⟩⟩, hS_b113.F ht9⟩) hS_b113.2.2 dX3_stopAt_113
    refine lv_if_ne (tgt := 113) hx hb dX3_stopAt_31 (by decide) (fun c_2 => ?_) (fun c_2 => ?_)
    · exact k_113 v_nextCount_29 v_nextAt_29 v_nextCells_29 v_waits_29 _ _ _ (w_b29.1 c_2) hP_b29 hD_b29 hS_b29 (lv_sub hl_1 [] rfl)
    · refine lv_iload_n hx hb dX3_stopAt_34 rfl (lv_at hl_1 2 rfl) ?_
      refine lv_if_lt (tgt := 113) hx hb dX3_stopAt_35 (by decide) (fun c_3 => ?_) (fun c_3 => ?_)
      · exact k_113 v_nextCount_29 v_nextAt_29 v_nextCells_29 v_waits_29 _ _ _ ((w_b29.2 c_2).1 c_3) hP_b29 hD_b29 hS_b29 (lv_sub hl_1 [] rfl)
      · refine lv_iload_n hx hb dX3_stopAt_38 rfl (lv_at hl_1 2 rfl) ?_
        refine lv_sipush (v := 512) hx hb dX3_stopAt_39 (by decide) ?_
        refine lv_icmp_ge (tgt := 113) hx hb dX3_stopAt_42 (by decide) (fun c_4 => ?_) (fun c_4 => ?_)
        · exact k_113 v_nextCount_29 v_nextAt_29 v_nextCells_29 v_waits_29 _ _ _ (((w_b29.2 c_2).2 c_3).1 c_4) hP_b29 hD_b29 hS_b29 (lv_sub hl_1 [] rfl)
        · refine lv_aload_n hx hb dX3_stopAt_45 rfl (lv_at hl_1 1 rfl) ?_
          refine va_get (D := (dC, dI)) (ci := 6) (v := .int v_nextCount_29) (C := RX3) (T := TX3) (N := 17) hx hb ht inX3 hown hK hP_b29 0 rfl rfl 9 (by decide) (ht _ tw_628) (fun _ h9 => h9) rfl dX3_stopAt_46 ?_
          refine lv_if_lt (tgt := 113) hx hb dX3_stopAt_49 (by decide) (fun c_5 => ?_) (fun c_5 => ?_)
          · exact k_113 v_nextCount_29 v_nextAt_29 v_nextCells_29 v_waits_29 _ _ _ ((((w_b29.2 c_2).2 c_3).2 c_4).1 c_5) hP_b29 hD_b29 hS_b29 (lv_sub hl_1 [] rfl)
          · refine lv_aload_n hx hb dX3_stopAt_52 rfl (lv_at hl_1 1 rfl) ?_
            refine va_get (D := (dC, dI)) (ci := 6) (v := .int v_nextCount_29) (C := RX3) (T := TX3) (N := 17) hx hb ht inX3 hown hK hP_b29 0 rfl rfl 9 (by decide) (ht _ tw_628) (fun _ h9 => h9) rfl dX3_stopAt_53 ?_
            refine lv_sipush (v := 256) hx hb dX3_stopAt_56 (by decide) ?_
            refine lv_icmp_ge (tgt := 113) hx hb dX3_stopAt_59 (by decide) (fun c_6 => ?_) (fun c_6 => ?_)
            · have w_7 := ((((w_b29.2 c_2).2 c_3).2 c_4).2 c_5).1 c_6
              exact k_113 v_nextCount_29 v_nextAt_29 v_nextCells_29 v_waits_29 _ _ _ w_7 hP_b29 hD_b29 hS_b29 (lv_sub hl_1 [] rfl)
            · refine lv_aload_n hx hb dX3_stopAt_62 rfl (lv_at hl_1 1 rfl) ?_
              refine va_get (D := (dC, dI)) (ci := 6) (v := .ref h3) (C := RX3) (T := TX3) (N := 17) hx hb ht inX3 hown hK hP_b29 0 rfl rfl 11 (by decide) (ht _ tw_630) (fun _ h9 => h9) rfl dX3_stopAt_63 ?_
              refine lv_iload_n hx hb dX3_stopAt_66 rfl (lv_at hl_1 2 rfl) ?_
              refine lv_aload_n hx hb dX3_stopAt_67 rfl (lv_at hl_1 1 rfl) ?_
              refine va_get (D := (dC, dI)) (ci := 6) (v := .int v_stamp) (C := RX3) (T := TX3) (N := 17) hx hb ht inX3 hown hK hP_b29 0 rfl rfl 12 (by decide) (ht _ tw_631) (fun _ h9 => h9) rfl dX3_stopAt_68 ?_
              have w_8 := ((((w_b29.2 c_2).2 c_3).2 c_4).2 c_5).2 c_6
              refine va_iast hx hb hK hP_b29 hD_b29 hS_b29 3 2 rfl rfl (i := p1) w_8.1 dX3_stopAt_71 (fun H_9 locs_9 hP_9 hD_9 hS_9 => ?_)
              obtain ⟨g_9, hg_9⟩ : ∃ g : Nat → Int32, g = upd v_waits_29 p1.toNatClampNeg v_stamp := ⟨_, rfl⟩
              have hP_9 : va_P (dC, dI) vwCl [(h0, .inr (6, oX3 (.ref h5) (.ref h6) v_width (.ref h7) (.ref h8) (.ref h9) v_nowCount (.ref h1) (.ref h2) v_nextCount_29 (.ref h10) (.ref h3) v_stamp (.ref h4) (.ref h11) (.ref h12) v_stackCount)), (h1, .inl (k0, 256, .inl v_nextAt_29)), (h2, .inl (k1, 5120, .inl v_nextCells_29)), (h3, .inl (k2, 512, .inl g_9)), (h4, .inl (k3, 20, .inl v_cells))] H_9 := by rw [hg_9]; exact hP_9
              have hD_9 : va_D A [(h0, .inr (6, oX3 (.ref h5) (.ref h6) v_width (.ref h7) (.ref h8) (.ref h9) v_nowCount (.ref h1) (.ref h2) v_nextCount_29 (.ref h10) (.ref h3) v_stamp (.ref h4) (.ref h11) (.ref h12) v_stackCount)), (h1, .inl (k0, 256, .inl v_nextAt_29)), (h2, .inl (k1, 5120, .inl v_nextCells_29)), (h3, .inl (k2, 512, .inl g_9)), (h4, .inl (k3, 20, .inl v_cells))] := by rw [hg_9]; exact hD_9
              refine lv_aload_n hx hb dX3_stopAt_72 rfl (lv_at hl_1 1 rfl) ?_
              refine va_get (D := (dC, dI)) (ci := 6) (v := .ref h1) (C := RX3) (T := TX3) (N := 17) hx hb ht inX3 hown hK hP_9 0 rfl rfl 7 (by decide) (ht _ tw_626) (fun _ h9 => h9) rfl dX3_stopAt_73 ?_
              refine lv_aload_n hx hb dX3_stopAt_76 rfl (lv_at hl_1 1 rfl) ?_
              refine va_get (D := (dC, dI)) (ci := 6) (v := .int v_nextCount_29) (C := RX3) (T := TX3) (N := 17) hx hb ht inX3 hown hK hP_9 0 rfl rfl 9 (by decide) (ht _ tw_628) (fun _ h9 => h9) rfl dX3_stopAt_77 ?_
              refine lv_iload_n hx hb dX3_stopAt_80 rfl (lv_at hl_1 2 rfl) ?_
              refine va_iast hx hb hK hP_9 hD_9 hS_9 1 0 rfl rfl (i := v_nextCount_29) (w_8.2 g_9 hg_9).1 dX3_stopAt_81 (fun H_10 locs_10 hP_10 hD_10 hS_10 => ?_)
              obtain ⟨g_10, hg_10⟩ : ∃ g : Nat → Int32, g = upd v_nextAt_29 v_nextCount_29.toNatClampNeg p1 := ⟨_, rfl⟩
              have hP_10 : va_P (dC, dI) vwCl [(h0, .inr (6, oX3 (.ref h5) (.ref h6) v_width (.ref h7) (.ref h8) (.ref h9) v_nowCount (.ref h1) (.ref h2) v_nextCount_29 (.ref h10) (.ref h3) v_stamp (.ref h4) (.ref h11) (.ref h12) v_stackCount)), (h1, .inl (k0, 256, .inl g_10)), (h2, .inl (k1, 5120, .inl v_nextCells_29)), (h3, .inl (k2, 512, .inl g_9)), (h4, .inl (k3, 20, .inl v_cells))] H_10 := by rw [hg_10]; exact hP_10
              have hD_10 : va_D A [(h0, .inr (6, oX3 (.ref h5) (.ref h6) v_width (.ref h7) (.ref h8) (.ref h9) v_nowCount (.ref h1) (.ref h2) v_nextCount_29 (.ref h10) (.ref h3) v_stamp (.ref h4) (.ref h11) (.ref h12) v_stackCount)), (h1, .inl (k0, 256, .inl g_10)), (h2, .inl (k1, 5120, .inl v_nextCells_29)), (h3, .inl (k2, 512, .inl g_9)), (h4, .inl (k3, 20, .inl v_cells))] := by rw [hg_10]; exact hD_10
              refine lv_aload_n hx hb dX3_stopAt_82 rfl (lv_at hl_1 1 rfl) ?_
              refine va_get (D := (dC, dI)) (ci := 6) (v := .ref h4) (C := RX3) (T := TX3) (N := 17) hx hb ht inX3 hown hK hP_10 0 rfl rfl 13 (by decide) (ht _ tw_632) (fun _ h9 => h9) rfl dX3_stopAt_83 ?_
              refine lv_iconst (v := 0) hx hb dX3_stopAt_86 (by decide) ?_
              refine lv_aload_n hx hb dX3_stopAt_87 rfl (lv_at hl_1 1 rfl) ?_
              refine va_get (D := (dC, dI)) (ci := 6) (v := .ref h2) (C := RX3) (T := TX3) (N := 17) hx hb ht inX3 hown hK hP_10 0 rfl rfl 8 (by decide) (ht _ tw_627) (fun _ h9 => h9) rfl dX3_stopAt_88 ?_
              refine lv_aload_n hx hb dX3_stopAt_91 rfl (lv_at hl_1 1 rfl) ?_
              refine va_get (D := (dC, dI)) (ci := 6) (v := .int v_nextCount_29) (C := RX3) (T := TX3) (N := 17) hx hb ht inX3 hown hK hP_10 0 rfl rfl 9 (by decide) (ht _ tw_628) (fun _ h9 => h9) rfl dX3_stopAt_92 ?_
              refine lv_bipush (v := 20) hx hb dX3_stopAt_95 (by decide) ?_
              refine lv_imul hx hb dX3_stopAt_97 ?_
              refine lv_topi (fun x_11 ex_11 => ?_)
              have ex_11 : x_11 = v_nextCount_29 * (20 : Int32) := ex_11
              refine lv_bipush (v := 20) hx hb dX3_stopAt_98 (by decide) ?_
              have w_13 := (((w_8.2 g_9 hg_9).2) g_10 hg_10) x_11 ex_11
              refine va_copyi hx hb (by rw [hml]; exact hl_1.1.symm) hown (ht _ tw_1556) (ht _ tw_1558) (ht _ tw_1557) (ht _ tw_258) hK hP_10 hD_10 hS_10 4 2 3 1 rfl rfl rfl rfl rfl w_13.1 w_13.2.1 w_13.2.2.1 w_13.2.2.2.1 w_13.2.2.2.2.1 (fun _ _ => rfl) (Nat.le_of_ble_eq_true rfl) (Nat.le_of_ble_eq_true rfl) dX3_stopAt_100 (fun H_12 locs_12 hP_12 hD_12 hS_12 => ?_)
              obtain ⟨g_12, hg_12⟩ : ∃ g : Nat → Int32, g = va_cpy v_cells v_nextCells_29 (0 : Int32).toNatClampNeg x_11.toNatClampNeg (20 : Int32).toNatClampNeg := ⟨_, rfl⟩
              have hP_12 : va_P (dC, dI) vwCl [(h0, .inr (6, oX3 (.ref h5) (.ref h6) v_width (.ref h7) (.ref h8) (.ref h9) v_nowCount (.ref h1) (.ref h2) v_nextCount_29 (.ref h10) (.ref h3) v_stamp (.ref h4) (.ref h11) (.ref h12) v_stackCount)), (h1, .inl (k0, 256, .inl g_10)), (h2, .inl (k1, 5120, .inl g_12)), (h3, .inl (k2, 512, .inl g_9)), (h4, .inl (k3, 20, .inl v_cells))] H_12 := by rw [hg_12]; exact hP_12
              have hD_12 : va_D A [(h0, .inr (6, oX3 (.ref h5) (.ref h6) v_width (.ref h7) (.ref h8) (.ref h9) v_nowCount (.ref h1) (.ref h2) v_nextCount_29 (.ref h10) (.ref h3) v_stamp (.ref h4) (.ref h11) (.ref h12) v_stackCount)), (h1, .inl (k0, 256, .inl g_10)), (h2, .inl (k1, 5120, .inl g_12)), (h3, .inl (k2, 512, .inl g_9)), (h4, .inl (k3, 20, .inl v_cells))] := by rw [hg_12]; exact hD_12
              refine lv_aload_n hx hb dX3_stopAt_103 rfl (lv_at hl_1 1 rfl) ?_
              refine lv_dup hx hb dX3_stopAt_104 rfl ?_
              refine va_get (D := (dC, dI)) (ci := 6) (v := .int v_nextCount_29) (C := RX3) (T := TX3) (N := 17) hx hb ht inX3 hown hK hP_12 0 rfl rfl 9 (by decide) (ht _ tw_628) (fun _ h9 => h9) rfl dX3_stopAt_105 ?_
              refine lv_iconst (v := 1) hx hb dX3_stopAt_108 (by decide) ?_
              refine lv_iadd hx hb dX3_stopAt_109 ?_
              refine lv_topi (fun x_14 ex_14 => ?_)
              have ex_14 : x_14 = v_nextCount_29 + (1 : Int32) := ex_14
              refine va_put (D := (dC, dI)) (ci := 6) (v := .int x_14) (ty := .int) (C := RX3) (T := TX3) (N := 17) hx hb ht inX3 tyX3 tyX3_ok nmX3 hown hK hP_12 hD_12 hS_12 0 rfl rfl 9 (by decide) (ht _ tw_628) (fun _ h9 => h9) rfl (by decide +kernel) rfl rfl (Nat.le_of_ble_eq_true rfl) dX3_stopAt_110 (fun H_15 locs_15 hP_15 hD_15 hS_15 => ?_)
              have hP_15 : va_P (dC, dI) vwCl [(h0, .inr (6, oX3 (.ref h5) (.ref h6) v_width (.ref h7) (.ref h8) (.ref h9) v_nowCount (.ref h1) (.ref h2) x_14 (.ref h10) (.ref h3) v_stamp (.ref h4) (.ref h11) (.ref h12) v_stackCount)), (h1, .inl (k0, 256, .inl g_10)), (h2, .inl (k1, 5120, .inl g_12)), (h3, .inl (k2, 512, .inl g_9)), (h4, .inl (k3, 20, .inl v_cells))] H_15 := hP_15
              have hD_15 : va_D A [(h0, .inr (6, oX3 (.ref h5) (.ref h6) v_width (.ref h7) (.ref h8) (.ref h9) v_nowCount (.ref h1) (.ref h2) x_14 (.ref h10) (.ref h3) v_stamp (.ref h4) (.ref h11) (.ref h12) v_stackCount)), (h1, .inl (k0, 256, .inl g_10)), (h2, .inl (k1, 5120, .inl g_12)), (h3, .inl (k2, 512, .inl g_9)), (h4, .inl (k3, 20, .inl v_cells))] := hD_15
              exact k_113 x_14 g_10 g_12 g_9 _ _ _ (w_13.2.2.2.2.2 g_12 hg_12 x_14 ex_14) hP_15 hD_15 hS_15 (lv_sub hl_1 [] rfl)
  have k_28 : ∀ (v_nextCount_28 : Int32) (v_nextAt_28 : Nat → Int32) (v_nextCells_28 : Nat → Int32) (v_waits_28 : Nat → Int32), ∀ (H_b28 : Heap) (locs_b28 : List Loc) (ls_b28 : Array Slot), w_X3_stopAt_28 p1 v_stamp v_cells Q v_nextCount_28 v_nextAt_28 v_nextCells_28 v_waits_28 → va_P (dC, dI) vwCl [(h0, .inr (6, oX3 (.ref h5) (.ref h6) v_width (.ref h7) (.ref h8) (.ref h9) v_nowCount (.ref h1) (.ref h2) v_nextCount_28 (.ref h10) (.ref h3) v_stamp (.ref h4) (.ref h11) (.ref h12) v_stackCount)), (h1, .inl (k0, 256, .inl v_nextAt_28)), (h2, .inl (k1, 5120, .inl v_nextCells_28)), (h3, .inl (k2, 512, .inl v_waits_28)), (h4, .inl (k3, 20, .inl v_cells))] H_b28 → va_D A [(h0, .inr (6, oX3 (.ref h5) (.ref h6) v_width (.ref h7) (.ref h8) (.ref h9) v_nowCount (.ref h1) (.ref h2) v_nextCount_28 (.ref h10) (.ref h3) v_stamp (.ref h4) (.ref h11) (.ref h12) v_stackCount)), (h1, .inl (k0, 256, .inl v_nextAt_28)), (h2, .inl (k1, 5120, .inl v_nextCells_28)), (h3, .inl (k2, 512, .inl v_waits_28)), (h4, .inl (k3, 20, .inl v_cells))] → va_S A s.heap H_b28 locs_b28 → lv_has ls_b28 3 [(0, .ref h0), (1, .int p1)] → W p l e ({ frames := 1, cells := 0, slots := 0, locals := 20 } : Room) s m ([.ref h0, .int p1]).toArray below meth c H_b28 locs_b28 0 0 QQ (F0 m 28 ls_b28 []) := by
    intro v_nextCount_28 v_nextAt_28 v_nextCells_28 v_waits_28 H_b28 locs_b28 ls_b28 w_b28 hP_b28 hD_b28 hS_b28 hl_b28
    unfold w_X3_stopAt_28 at w_b28
    refine lv_iconst (v := 0) hx hb dX3_stopAt_28 (by decide) ?_
    exact k_29 0 v_nextCount_28 v_nextAt_28 v_nextCells_28 v_waits_28 _ _ _ w_b28 hP_b28 hD_b28 hS_b28 (lv_sub hl_b28 [0, 1] rfl)
  refine lv_if_lt (tgt := 28) hx hb dX3_stopAt_1 (by decide) (fun c_16 => ?_) (fun c_16 => ?_)
  · exact k_28 v_nextCount v_nextAt v_nextCells v_waits _ _ _ (w.1 c_16) hP hD hS (lv_sub hl [0, 1] rfl)
  · refine lv_iload_n hx hb dX3_stopAt_4 rfl (lv_at hl 1 rfl) ?_
    refine lv_sipush (v := 512) hx hb dX3_stopAt_5 (by decide) ?_
    refine lv_icmp_ge (tgt := 28) hx hb dX3_stopAt_8 (by decide) (fun c_17 => ?_) (fun c_17 => ?_)
    · exact k_28 v_nextCount v_nextAt v_nextCells v_waits _ _ _ ((w.2 c_16).1 c_17) hP hD hS (lv_sub hl [0, 1] rfl)
    · refine lv_aload_n hx hb dX3_stopAt_11 rfl (lv_at hl 0 rfl) ?_
      refine va_get (D := (dC, dI)) (ci := 6) (v := .ref h3) (C := RX3) (T := TX3) (N := 17) hx hb ht inX3 hown hK hP 0 rfl rfl 11 (by decide) (ht _ tw_630) (fun _ h9 => h9) rfl dX3_stopAt_12 ?_
      refine lv_iload_n hx hb dX3_stopAt_15 rfl (lv_at hl 1 rfl) ?_
      refine va_iald hx hb hK hP 3 2 rfl rfl (i := p1) ((w.2 c_16).2 c_17).1 dX3_stopAt_16 ?_
      refine lv_topi (fun x_18 ex_18 => ?_)
      have ex_18 : x_18 = v_waits p1.toNatClampNeg := ex_18
      refine lv_aload_n hx hb dX3_stopAt_17 rfl (lv_at hl 0 rfl) ?_
      refine va_get (D := (dC, dI)) (ci := 6) (v := .int v_stamp) (C := RX3) (T := TX3) (N := 17) hx hb ht inX3 hown hK hP 0 rfl rfl 12 (by decide) (ht _ tw_631) (fun _ h9 => h9) rfl dX3_stopAt_18 ?_
      refine lv_icmp_ne (tgt := 28) hx hb dX3_stopAt_21 (by decide) (fun c_19 => ?_) (fun c_19 => ?_)
      · have w_20 := ((((w.2 c_16).2 c_17).2) x_18 ex_18).1 c_19
        exact k_28 v_nextCount v_nextAt v_nextCells v_waits _ _ _ w_20 hP hD hS (lv_sub hl [0, 1] rfl)
      · refine lv_iconst (v := 1) hx hb dX3_stopAt_24 (by decide) ?_
        refine lv_goto (tgt := 29) hx hb dX3_stopAt_25 (by decide) ?_
        have w_21 := ((((w.2 c_16).2 c_17).2) x_18 ex_18).2 c_19
        exact k_29 1 v_nextCount v_nextAt v_nextCells v_waits _ _ _ w_21 hP hD hS (lv_sub hl [0, 1] rfl)
