def w_X6_readHex_80 (Q : Int32 → Int32 → Int32 → Int32 → Prop) (K4 : Int32 → Int32 → Int32 → Prop) (l1_80 : Int32) (l2_80 : Int32) (v_at_80 : Int32) : Prop :=
  ∀ x_7 : Int32, x_7 = v_at_80 + (1 : Int32) → ∀ x_9 : Int32, x_9 = l2_80 + 1 → K4 l1_80 x_9 x_7
def w_X6_readHex_69 (Q : Int32 → Int32 → Int32 → Int32 → Prop) (v_fault_69 : Int32) (v_faultPlace_69 : Int32) (v_at_69 : Int32) : Prop :=
  w_X6_blame 1 v_at_69 v_fault_69 v_faultPlace_69 (fun r_11_0 r_11_1 => Q 0 r_11_0 r_11_1 v_at_69)
def w_X6_readHex_4B (v_text_count : Int32) (v_text_items : Nat → Int32) (nv_text_items : Nat) (Q : Int32 → Int32 → Int32 → Int32 → Prop) (K4 : Int32 → Int32 → Int32 → Prop) (v_fault_4 : Int32) (v_faultPlace_4 : Int32) (l1_4 : Int32) (l2_4 : Int32) (v_at_4 : Int32) : Prop :=
  ((4 ≤ l2_4) → Q l1_4 v_fault_4 v_faultPlace_4 v_at_4) ∧ ((¬ 4 ≤ l2_4) → w_X7_at v_at_4 v_text_count v_text_items nv_text_items (fun r_4 => w_X11_isDigit r_4 (fun r_6 => ((r_6 = 0) → ((r_4 < 97) → w_X6_readHex_69 Q v_fault_4 v_faultPlace_4 v_at_4) ∧ ((¬ r_4 < 97) → ((102 < r_4) → w_X6_readHex_69 Q v_fault_4 v_faultPlace_4 v_at_4) ∧ ((¬ 102 < r_4) → ∀ x_14 : Int32, x_14 = l1_4 * (16 : Int32) → ∀ x_15 : Int32, x_15 = x_14 + r_4 → ∀ x_16 : Int32, x_16 = x_15 - (97 : Int32) → ∀ x_17 : Int32, x_17 = x_16 + (10 : Int32) → w_X6_readHex_80 Q K4 x_17 l2_4 v_at_4))) ∧ ((¬ r_6 = 0) → ∀ x_20 : Int32, x_20 = l1_4 * (16 : Int32) → ∀ x_21 : Int32, x_21 = x_20 + r_4 → ∀ x_22 : Int32, x_22 = x_21 - (48 : Int32) → w_X6_readHex_80 Q K4 x_22 l2_4 v_at_4))))
def w_X6_readHex_4 (v_text_count : Int32) (v_text_items : Nat → Int32) (nv_text_items : Nat) (Q : Int32 → Int32 → Int32 → Int32 → Prop) (v_fault_4 : Int32) (v_faultPlace_4 : Int32) : Nat → Int32 → Int32 → Int32 → Prop
  | 0, _, _, _ => False
  | n9 + 1, l1_4, l2_4, v_at_4 => w_X6_readHex_4B v_text_count v_text_items nv_text_items Q (w_X6_readHex_4 v_text_count v_text_items nv_text_items Q v_fault_4 v_faultPlace_4 n9) v_fault_4 v_faultPlace_4 l1_4 l2_4 v_at_4
def w_X6_readHex (v_text_count : Int32) (v_text_items : Nat → Int32) (nv_text_items : Nat) (v_fault : Int32) (v_faultPlace : Int32) (v_at : Int32) (Q : Int32 → Int32 → Int32 → Int32 → Prop) : Prop :=
  ∃ k9 : Nat, w_X6_readHex_4 v_text_count v_text_items nv_text_items Q v_fault v_faultPlace k9 0 0 v_at
set_option maxHeartbeats 4000000 in
set_option maxRecDepth 100000 in
theorem mt_X6_readHex (l : Launch) (dC : Nat → ClassId) (dI : Nat → Nat → Nat) (h0 h1 h2 h3 h4 h5 h6 h7 h8 h9 h10 h11 h12 h13 : Nat) (k0 : ClassId) (v_text_count : Int32) (v_text_over : Bool) (v_text_there : Bool) (v_text_items : Nat → Int32) (nv_text_items : Nat) (v_fault : Int32) (v_faultPlace : Int32) (v_count : Int32) (v_depth : Int32) (v_at : Int32) (v_items : Int32) (v_partCount : Int32) (Q : Int32 → Int32 → Int32 → Int32 → Prop) (w : w_X6_readHex v_text_count v_text_items nv_text_items v_fault v_faultPlace v_at Q) (sz : Nat) : Met l yX6_readHex (WS yX6_readHex cX6_readHex 4 (some (.int))) ({ frames := 1, cells := 0, slots := 0, locals := 22 } : Room) (va_Pc [.ref h0] (fun U => U.heap.size = sz ∧ va_P (dC, dI) vwCl [(h1, .inr (10, oX7 (.ref h2) v_text_count v_text_over v_text_there)), (h2, .inl (k0, nv_text_items, .inl v_text_items)), (h0, .inr (9, oX6 v_fault v_faultPlace (.ref h3) (.ref h4) (.ref h5) (.ref h6) (.ref h7) (.ref h8) v_count (.ref h9) v_depth (.ref h1) (.ref h10) v_at v_items (.ref h11) (.ref h12) (.ref h13) v_partCount))] U.heap ∧ va_K (dC, dI) vwCl [(k0, .int)] U ∧ va_D (fun _ => True) [(h1, .inr (10, oX7 (.ref h2) v_text_count v_text_over v_text_there)), (h2, .inl (k0, nv_text_items, .inl v_text_items)), (h0, .inr (9, oX6 v_fault v_faultPlace (.ref h3) (.ref h4) (.ref h5) (.ref h6) (.ref h7) (.ref h8) v_count (.ref h9) v_depth (.ref h1) (.ref h10) v_at v_items (.ref h11) (.ref h12) (.ref h13) v_partCount))] ∧ EX U)) (va_Qi (fun (r u : Int32) => r = u) (fun (u : Int32) (t : State) => ∃ (ov_fault : Int32), ∃ (ov_faultPlace : Int32), ∃ (ov_at : Int32), (Q u ov_fault ov_faultPlace ov_at) ∧ va_P (dC, dI) vwCl [(h1, .inr (10, oX7 (.ref h2) v_text_count v_text_over v_text_there)), (h2, .inl (k0, nv_text_items, .inl v_text_items)), (h0, .inr (9, oX6 ov_fault ov_faultPlace (.ref h3) (.ref h4) (.ref h5) (.ref h6) (.ref h7) (.ref h8) v_count (.ref h9) v_depth (.ref h1) (.ref h10) ov_at v_items (.ref h11) (.ref h12) (.ref h13) v_partCount))] t.heap ∧ va_D (va_A [(h1, .inr (10, oX7 (.ref h2) v_text_count v_text_over v_text_there)), (h2, .inl (k0, nv_text_items, .inl v_text_items)), (h0, .inr (9, oX6 v_fault v_faultPlace (.ref h3) (.ref h4) (.ref h5) (.ref h6) (.ref h7) (.ref h8) v_count (.ref h9) v_depth (.ref h1) (.ref h10) v_at v_items (.ref h11) (.ref h12) (.ref h13) v_partCount))] sz) [(h1, .inr (10, oX7 (.ref h2) v_text_count v_text_over v_text_there)), (h2, .inl (k0, nv_text_items, .inl v_text_items)), (h0, .inr (9, oX6 ov_fault ov_faultPlace (.ref h3) (.ref h4) (.ref h5) (.ref h6) (.ref h7) (.ref h8) v_count (.ref h9) v_depth (.ref h1) (.ref h10) ov_at v_items (.ref h11) (.ref h12) (.ref h13) v_partCount))]) (va_A [(h1, .inr (10, oX7 (.ref h2) v_text_count v_text_over v_text_there)), (h2, .inl (k0, nv_text_items, .inl v_text_items)), (h0, .inr (9, oX6 v_fault v_faultPlace (.ref h3) (.ref h4) (.ref h5) (.ref h6) (.ref h7) (.ref h8) v_count (.ref h9) v_depth (.ref h1) (.ref h10) v_at v_items (.ref h11) (.ref h12) (.ref h13) v_partCount))] sz)) 0 0 (va_A [(h1, .inr (10, oX7 (.ref h2) v_text_count v_text_over v_text_there)), (h2, .inl (k0, nv_text_items, .inl v_text_items)), (h0, .inr (9, oX6 v_fault v_faultPlace (.ref h3) (.ref h4) (.ref h5) (.ref h6) (.ref h7) (.ref h8) v_count (.ref h9) v_depth (.ref h1) (.ref h10) v_at v_items (.ref h11) (.ref h12) (.ref h13) v_partCount))] sz) := by
  refine Met.ofW (cc := cX6_readHex) (maxL := 4) (ret := (some (.int))) (by decide) rfl ?_
  intro p e s m args below meth c s₁ B hml hv
  obtain ⟨rfl, hsz, hP, hK, hD0, hE⟩ := hv
  have hx := B.exec
  have hb := B.bytes
  have hr := B.returns
  have hts := atoms_spec (ws := WS yX6_readHex cX6_readHex 4 (some (.int))) B.pre
  have ht : ∀ w ∈ TW, w.before _ s = true := fun w h => hts w (List.mem_cons_of_mem _ h)
  have hown : s.vm.findClass "PatternWorkshop$Reader" = some m.cls := findClass_of_methodNamed B.named
  have hlocks := B.notSynchronized
  subst hsz
  have hD := hD0.self (sz := s.heap.size)
  generalize hAe : va_A [(h1, .inr (10, oX7 (.ref h2) v_text_count v_text_over v_text_there)), (h2, .inl (k0, nv_text_items, .inl v_text_items)), (h0, .inr (9, oX6 v_fault v_faultPlace (.ref h3) (.ref h4) (.ref h5) (.ref h6) (.ref h7) (.ref h8) v_count (.ref h9) v_depth (.ref h1) (.ref h10) v_at v_items (.ref h11) (.ref h12) (.ref h13) v_partCount))] s.heap.size = A at hD ⊢
  have hA : ∀ q : Nat, s.heap.size ≤ q → A q := fun q h => by rw [← hAe]; exact Or.inr h
  have hS : va_S A s.heap s.heap [] := va_S.rf
  have hP : va_P (dC, dI) vwCl [(h1, .inr (10, oX7 (.ref h2) v_text_count v_text_over v_text_there)), (h2, .inl (k0, nv_text_items, .inl v_text_items)), (h0, .inr (9, oX6 v_fault v_faultPlace (.ref h3) (.ref h4) (.ref h5) (.ref h6) (.ref h7) (.ref h8) v_count (.ref h9) v_depth (.ref h1) (.ref h10) v_at v_items (.ref h11) (.ref h12) (.ref h13) v_partCount))] s.heap := hP
  have hl := lv_entry ([.ref h0]) (n := 4) (Nat.le_of_ble_eq_true rfl)
  rw [lg_entry_eq]
  generalize (lg_sl ([.ref h0]) ++ List.replicate (4 - (lg_sl ([.ref h0])).length) Slot.unset).toArray = ls at hl ⊢
  have hl : lv_has ls 4 [(0, .ref h0)] := hl
  clear hD0
  obtain ⟨QQ, hQQ⟩ : ∃ QQ, QQ = MQ below (va_Qi (fun (r u : Int32) => r = u) (fun (u : Int32) (t : State) => ∃ (ov_fault : Int32), ∃ (ov_faultPlace : Int32), ∃ (ov_at : Int32), (Q u ov_fault ov_faultPlace ov_at) ∧ va_P (dC, dI) vwCl [(h1, .inr (10, oX7 (.ref h2) v_text_count v_text_over v_text_there)), (h2, .inl (k0, nv_text_items, .inl v_text_items)), (h0, .inr (9, oX6 ov_fault ov_faultPlace (.ref h3) (.ref h4) (.ref h5) (.ref h6) (.ref h7) (.ref h8) v_count (.ref h9) v_depth (.ref h1) (.ref h10) ov_at v_items (.ref h11) (.ref h12) (.ref h13) v_partCount))] t.heap ∧ va_D A [(h1, .inr (10, oX7 (.ref h2) v_text_count v_text_over v_text_there)), (h2, .inl (k0, nv_text_items, .inl v_text_items)), (h0, .inr (9, oX6 ov_fault ov_faultPlace (.ref h3) (.ref h4) (.ref h5) (.ref h6) (.ref h7) (.ref h8) v_count (.ref h9) v_depth (.ref h1) (.ref h10) ov_at v_items (.ref h11) (.ref h12) (.ref h13) v_partCount))]) A) ([.ref h0]).toArray s 0 0 A := ⟨_, rfl⟩
  show W p l e ({ frames := 1, cells := 0, slots := 0, locals := 22 } : Room) s m ([.ref h0]).toArray below meth c s.heap [] 0 0 (MQ below (va_Qi (fun (r u : Int32) => r = u) (fun (u : Int32) (t : State) => ∃ (ov_fault : Int32), ∃ (ov_faultPlace : Int32), ∃ (ov_at : Int32), (Q u ov_fault ov_faultPlace ov_at) ∧ va_P (dC, dI) vwCl [(h1, .inr (10, oX7 (.ref h2) v_text_count v_text_over v_text_there)), (h2, .inl (k0, nv_text_items, .inl v_text_items)), (h0, .inr (9, oX6 ov_fault ov_faultPlace (.ref h3) (.ref h4) (.ref h5) (.ref h6) (.ref h7) (.ref h8) v_count (.ref h9) v_depth (.ref h1) (.ref h10) ov_at v_items (.ref h11) (.ref h12) (.ref h13) v_partCount))] t.heap ∧ va_D A [(h1, .inr (10, oX7 (.ref h2) v_text_count v_text_over v_text_there)), (h2, .inl (k0, nv_text_items, .inl v_text_items)), (h0, .inr (9, oX6 ov_fault ov_faultPlace (.ref h3) (.ref h4) (.ref h5) (.ref h6) (.ref h7) (.ref h8) v_count (.ref h9) v_depth (.ref h1) (.ref h10) ov_at v_items (.ref h11) (.ref h12) (.ref h13) v_partCount))]) A) ([.ref h0]).toArray s 0 0 A) (F0 m 0 ls [])
  rw [← hQQ]
  unfold w_X6_readHex at w
  refine lv_iconst (v := 0) hx hb dX6_readHex_0 (by decide) ?_
  refine lv_istore_n (lv' := [(1, .int 0), (0, .ref h0)]) hx hb dX6_readHex_1 rfl hl (by decide) rfl (fun ls_1 hl_1 => ?_)
  clear hl
  refine lv_iconst (v := 0) hx hb dX6_readHex_2 (by decide) ?_
  refine lv_istore_n (lv' := [(2, .int 0), (1, .int 0), (0, .ref h0)]) hx hb dX6_readHex_3 rfl hl_1 (by decide) rfl (fun ls_2 hl_2 => ?_)
  clear hl_1
  have k_4 : ∀ (v_fault_4 : Int32) (v_faultPlace_4 : Int32), ∀ n_4 : Nat, ∀ (l1_4 : Int32) (l2_4 : Int32) (v_at_4 : Int32), ∀ (H_b4 : Heap) (locs_b4 : List Loc) (ls_b4 : Array Slot), w_X6_readHex_4 v_text_count v_text_items nv_text_items Q v_fault_4 v_faultPlace_4 n_4 l1_4 l2_4 v_at_4 → va_P (dC, dI) vwCl [(h1, .inr (10, oX7 (.ref h2) v_text_count v_text_over v_text_there)), (h2, .inl (k0, nv_text_items, .inl v_text_items)), (h0, .inr (9, oX6 v_fault_4 v_faultPlace_4 (.ref h3) (.ref h4) (.ref h5) (.ref h6) (.ref h7) (.ref h8) v_count (.ref h9) v_depth (.ref h1) (.ref h10) v_at_4 v_items (.ref h11) (.ref h12) (.ref h13) v_partCount))] H_b4 → va_D A [(h1, .inr (10, oX7 (.ref h2) v_text_count v_text_over v_text_there)), (h2, .inl (k0, nv_text_items, .inl v_text_items)), (h0, .inr (9, oX6 v_fault_4 v_faultPlace_4 (.ref h3) (.ref h4) (.ref h5) (.ref h6) (.ref h7) (.ref h8) v_count (.ref h9) v_depth (.ref h1) (.ref h10) v_at_4 v_items (.ref h11) (.ref h12) (.ref h13) v_partCount))] → va_S A s.heap H_b4 locs_b4 → lv_has ls_b4 4 [(0, .ref h0), (1, .int l1_4), (2, .int l2_4)] → W p l e ({ frames := 1, cells := 0, slots := 0, locals := 22 } : Room) s m ([.ref h0]).toArray below meth c H_b4 locs_b4 0 0 QQ (F0 m 4 ls_b4 []) := by
    intro v_fault_4 v_faultPlace_4
    intro n_4
    induction n_4 with
    | zero =>
      intro l1_4 l2_4 v_at_4 H_b4 locs_b4 ls_b4 w_b4 hP_b4 hD_b4 hS_b4 hl_b4
      exact False.elim (by unfold w_X6_readHex_4 at w_b4; exact w_b4)
    | succ n_4 ih_4 =>
      intro l1_4 l2_4 v_at_4 H_b4 locs_b4 ls_b4 w_b4 hP_b4 hD_b4 hS_b4 hl_b4
      unfold w_X6_readHex_4 at w_b4
      unfold w_X6_readHex_4B at w_b4
      refine lv_iload_n hx hb dX6_readHex_4 rfl (lv_at hl_b4 2 rfl) ?_
      refine lv_iconst (v := 4) hx hb dX6_readHex_5 (by decide) ?_
      refine lv_icmp_ge (tgt := 96) hx hb dX6_readHex_6 (by decide) (fun c_3 => ?_) (fun c_3 => ?_)
      · refine lv_iload_n hx hb dX6_readHex_96 rfl (lv_at hl_b4 1 rfl) ?_
        rw [hQQ]
        exact W.iret (v := l1_4) hx hb hr (fun t9 ht9 hW9 => ⟨⟨l1_4, l1_4, rfl, rfl, ⟨v_fault_4, v_faultPlace_4, v_at_4, w_b4.1 c_3, by rw [ht9]; exact hP_b4, hD_b4⟩⟩, hS_b4.F ht9⟩) hS_b4.2.2 dX6_readHex_97
      · refine lv_aload_n hx hb dX6_readHex_9 rfl (lv_at hl_b4 0 rfl) ?_
        refine va_get (D := (dC, dI)) (ci := 9) (v := .ref h1) (C := RX6) (T := TX6) (N := 19) hx hb ht inX6 hown hK hP_b4 2 rfl rfl 11 (by decide) (ht _ tw_448) (fun _ h9 => h9) rfl dX6_readHex_10 ?_
        refine lv_aload_n hx hb dX6_readHex_13 rfl (lv_at hl_b4 0 rfl) ?_
        refine va_get (D := (dC, dI)) (ci := 9) (v := .int v_at_4) (C := RX6) (T := TX6) (N := 19) hx hb ht inX6 hown hK hP_b4 2 rfl rfl 13 (by decide) (ht _ tw_450) (fun _ h9 => h9) rfl dX6_readHex_14 ?_
        have hPc_4 := hP_b4.sub (ws' := [(h1, .inr (10, oX7 (.ref h2) v_text_count v_text_over v_text_there)), (h2, .inl (k0, nv_text_items, .inl v_text_items))]) [0, 1] rfl
        have hDc_4 := hD_b4.sub (ws' := [(h1, .inr (10, oX7 (.ref h2) v_text_count v_text_over v_text_there)), (h2, .inl (k0, nv_text_items, .inl v_text_items))]) [0, 1] (by decide) rfl
        have hKc_4 := hK.sub (tys' := [(k0, .int)]) [0] rfl
        have hFc_4 := va_free (wc := [(h1, .inr (10, oX7 (.ref h2) v_text_count v_text_over v_text_there)), (h2, .inl (k0, nv_text_items, .inl v_text_items))]) hD_b4 hS_b4 hA [0, 1] rfl
        refine va_calli (va_runV (As := [.int v_at_4]) (rest := []) ⟨hx, hb, hml, hown, ht⟩ (mt_X7_at l dC dI h1 h2 k0 v_at_4 v_text_count v_text_over v_text_there v_text_items nv_text_items _ (w_b4.2 c_3) H_b4.size) (cwV 1 ht (goodV tw_907 tw_908 tw_909 tw_237 gw_X7_at) rfl rfl rfl (by decide +kernel) ⟨Nat.le_of_ble_eq_true rfl, Nat.le_of_ble_eq_true rfl⟩) ⟨fun a U g mk q => by obtain ⟨q0, q1, qP, qK, qD⟩ := q; exact ⟨q0, q1, qP, va_K.moved (u := U) (U := U.calling g mk a) (Vm.Alike.refl U.vm) qK, qD⟩, va_recv hKc_4 hPc_4 (ci := 10) (q0 := 0) rfl rfl, fun U hU hW => ⟨rfl, by rw [hU], by rw [hU]; exact hPc_4, va_K.moved hW.alike hKc_4, hDc_4.weaken (fun _ _ _ _ => trivial)⟩⟩ rfl rfl hl_b4.1 rfl (lv_room (Nat.le_of_ble_eq_true rfl)) dX6_readHex_17 ⟨Nat.le_of_ble_eq_true rfl, Nat.le_of_ble_eq_true rfl⟩) hS_b4 (fun q _ h => hFc_4 q h) hFc_4 (fun r_4 u_4 t_4 H_4 locs_4 ht_4 hvm_4 hw_4 hB_4 hz_4 hk_4 hS_4 => ?_)
        subst hw_4
        obtain ⟨w_4, hP1_4, hD1_4⟩ := hB_4
        rw [ht_4] at hP1_4
        obtain ⟨hP_4, hD_4⟩ := va_join (wr := [(h0, .inr (9, oX6 v_fault_4 v_faultPlace_4 (.ref h3) (.ref h4) (.ref h5) (.ref h6) (.ref h7) (.ref h8) v_count (.ref h9) v_depth (.ref h1) (.ref h10) v_at_4 v_items (.ref h11) (.ref h12) (.ref h13) v_partCount))]) (w1 := [(h1, .inr (10, oX7 (.ref h2) v_text_count v_text_over v_text_there)), (h2, .inl (k0, nv_text_items, .inl v_text_items))]) hP_b4 hD_b4 [0, 1] [2] rfl rfl (by decide) (by decide) hk_4 hFc_4 hP1_4 hD1_4
        have hP_4 := hP_4.sub (ws' := [(h1, .inr (10, oX7 (.ref h2) v_text_count v_text_over v_text_there)), (h2, .inl (k0, nv_text_items, .inl v_text_items)), (h0, .inr (9, oX6 v_fault_4 v_faultPlace_4 (.ref h3) (.ref h4) (.ref h5) (.ref h6) (.ref h7) (.ref h8) v_count (.ref h9) v_depth (.ref h1) (.ref h10) v_at_4 v_items (.ref h11) (.ref h12) (.ref h13) v_partCount))]) [1, 2, 0] rfl
        have hD_4 := hD_4.sub (ws' := [(h1, .inr (10, oX7 (.ref h2) v_text_count v_text_over v_text_there)), (h2, .inl (k0, nv_text_items, .inl v_text_items)), (h0, .inr (9, oX6 v_fault_4 v_faultPlace_4 (.ref h3) (.ref h4) (.ref h5) (.ref h6) (.ref h7) (.ref h8) v_count (.ref h9) v_depth (.ref h1) (.ref h10) v_at_4 v_items (.ref h11) (.ref h12) (.ref h13) v_partCount))]) [1, 2, 0] (by decide) rfl
        clear hPc_4 hDc_4 hKc_4 hFc_4 hP1_4 hD1_4 hk_4 hz_4
        refine lv_istore_n (lv' := [(3, .int r_4), (0, .ref h0), (1, .int l1_4), (2, .int l2_4)]) hx hb dX6_readHex_20 rfl hl_b4 (by decide) rfl (fun ls_5 hl_5 => ?_)
        clear hl_b4
        refine lv_iload_n hx hb dX6_readHex_21 rfl (lv_at hl_5 0 rfl) ?_
        have hPc_6 := hP_4.sub (ws' := []) [] rfl
        have hDc_6 := hD_4.sub (ws' := []) [] (by decide) rfl
        have hKc_6 := hK.sub (tys' := []) [] rfl
        have hFc_6 := va_free (wc := []) hD_4 hS_4 hA [] rfl
        refine va_calli (va_runSN (As := [.int r_4]) (rest := []) ⟨hx, hb, hml, hown, ht⟩ (mt_X11_isDigit l dC dI r_4 _ w_4 H_4.size) ⟨va_cnB 1 ht gw_X11_isDigit rfl rfl rfl (hE.2.2.2.2.2.2.2.2.2.2.2.2.2.1) (ht _ tw_236) (by decide +kernel) ⟨Nat.le_of_ble_eq_true rfl, Nat.le_of_ble_eq_true rfl⟩, ht _ tw_990, trivial⟩ ⟨fun a U g mk q => by obtain ⟨q0, q1, qP, qK, qD⟩ := q; exact ⟨q0, q1, qP, va_K.moved (u := U) (U := U.calling g mk a) (Vm.Alike.refl U.vm) qK, qD⟩, fun U hU hW => ⟨rfl, by rw [hU], by rw [hU]; exact hPc_6, va_K.moved hW.alike hKc_6, hDc_6.weaken (fun _ _ _ _ => trivial)⟩⟩ rfl rfl hl_5.1 rfl (lv_room (Nat.le_of_ble_eq_true rfl)) dX6_readHex_22 ⟨Nat.le_of_ble_eq_true rfl, Nat.le_of_ble_eq_true rfl⟩) hS_4 (fun q _ h => hFc_6 q h) hFc_6 (fun r_6 u_6 t_6 H_6 locs_6 ht_6 hvm_6 hw_6 hB_6 hz_6 hk_6 hS_6 => ?_)
        subst hw_6
        obtain ⟨w_6, hP1_6, hD1_6⟩ := hB_6
        rw [ht_6] at hP1_6
        obtain ⟨hP_6, hD_6⟩ := va_join (wr := [(h1, .inr (10, oX7 (.ref h2) v_text_count v_text_over v_text_there)), (h2, .inl (k0, nv_text_items, .inl v_text_items)), (h0, .inr (9, oX6 v_fault_4 v_faultPlace_4 (.ref h3) (.ref h4) (.ref h5) (.ref h6) (.ref h7) (.ref h8) v_count (.ref h9) v_depth (.ref h1) (.ref h10) v_at_4 v_items (.ref h11) (.ref h12) (.ref h13) v_partCount))]) (w1 := []) hP_4 hD_4 [] [0, 1, 2] rfl rfl (by decide) (by decide) hk_6 hFc_6 hP1_6 hD1_6
        have hP_6 := hP_6.sub (ws' := [(h1, .inr (10, oX7 (.ref h2) v_text_count v_text_over v_text_there)), (h2, .inl (k0, nv_text_items, .inl v_text_items)), (h0, .inr (9, oX6 v_fault_4 v_faultPlace_4 (.ref h3) (.ref h4) (.ref h5) (.ref h6) (.ref h7) (.ref h8) v_count (.ref h9) v_depth (.ref h1) (.ref h10) v_at_4 v_items (.ref h11) (.ref h12) (.ref h13) v_partCount))]) [0, 1, 2] rfl
        have hD_6 := hD_6.sub (ws' := [(h1, .inr (10, oX7 (.ref h2) v_text_count v_text_over v_text_there)), (h2, .inl (k0, nv_text_items, .inl v_text_items)), (h0, .inr (9, oX6 v_fault_4 v_faultPlace_4 (.ref h3) (.ref h4) (.ref h5) (.ref h6) (.ref h7) (.ref h8) v_count (.ref h9) v_depth (.ref h1) (.ref h10) v_at_4 v_items (.ref h11) (.ref h12) (.ref h13) v_partCount))]) [0, 1, 2] (by decide) rfl
        clear hPc_6 hDc_6 hKc_6 hFc_6 hP1_6 hD1_6 hk_6 hz_6
        have k_80 : ∀ (l1_80 : Int32) (l2_80 : Int32) (v_at_80 : Int32), ∀ (H_b80 : Heap) (locs_b80 : List Loc) (ls_b80 : Array Slot), w_X6_readHex_80 Q (w_X6_readHex_4 v_text_count v_text_items nv_text_items Q v_fault_4 v_faultPlace_4 n_4) l1_80 l2_80 v_at_80 → va_P (dC, dI) vwCl [(h1, .inr (10, oX7 (.ref h2) v_text_count v_text_over v_text_there)), (h2, .inl (k0, nv_text_items, .inl v_text_items)), (h0, .inr (9, oX6 v_fault_4 v_faultPlace_4 (.ref h3) (.ref h4) (.ref h5) (.ref h6) (.ref h7) (.ref h8) v_count (.ref h9) v_depth (.ref h1) (.ref h10) v_at_80 v_items (.ref h11) (.ref h12) (.ref h13) v_partCount))] H_b80 → va_D A [(h1, .inr (10, oX7 (.ref h2) v_text_count v_text_over v_text_there)), (h2, .inl (k0, nv_text_items, .inl v_text_items)), (h0, .inr (9, oX6 v_fault_4 v_faultPlace_4 (.ref h3) (.ref h4) (.ref h5) (.ref h6) (.ref h7) (.ref h8) v_count (.ref h9) v_depth (.ref h1) (.ref h10) v_at_80 v_items (.ref h11) (.ref h12) (.ref h13) v_partCount))] → va_S A s.heap H_b80 locs_b80 → lv_has ls_b80 4 [(0, .ref h0), (1, .int l1_80), (2, .int l2_80)] → W p l e ({ frames := 1, cells := 0, slots := 0, locals := 22 } : Room) s m ([.ref h0]).toArray below meth c H_b80 locs_b80 0 0 QQ (F0 m 80 ls_b80 []) := by
          intro l1_80 l2_80 v_at_80 H_b80 locs_b80 ls_b80 w_b80 hP_b80 hD_b80 hS_b80 hl_b80
          unfold w_X6_readHex_80 at w_b80
          refine lv_aload_n hx hb dX6_readHex_80 rfl (lv_at hl_b80 0 rfl) ?_
          refine lv_dup hx hb dX6_readHex_81 rfl ?_
          refine va_get (D := (dC, dI)) (ci := 9) (v := .int v_at_80) (C := RX6) (T := TX6) (N := 19) hx hb ht inX6 hown hK hP_b80 2 rfl rfl 13 (by decide) (ht _ tw_450) (fun _ h9 => h9) rfl dX6_readHex_82 ?_
          refine lv_iconst (v := 1) hx hb dX6_readHex_85 (by decide) ?_
          refine lv_iadd hx hb dX6_readHex_86 ?_
          refine lv_topi (fun x_7 ex_7 => ?_)
          have ex_7 : x_7 = v_at_80 + (1 : Int32) := ex_7
          refine va_put (D := (dC, dI)) (ci := 9) (v := .int x_7) (ty := .int) (C := RX6) (T := TX6) (N := 19) hx hb ht inX6 tyX6 tyX6_ok nmX6 hown hK hP_b80 hD_b80 hS_b80 2 rfl rfl 13 (by decide) (ht _ tw_450) (fun _ h9 => h9) rfl (by decide +kernel) rfl rfl (Nat.le_of_ble_eq_true rfl) dX6_readHex_87 (fun H_8 locs_8 hP_8 hD_8 hS_8 => ?_)
          have hP_8 : va_P (dC, dI) vwCl [(h1, .inr (10, oX7 (.ref h2) v_text_count v_text_over v_text_there)), (h2, .inl (k0, nv_text_items, .inl v_text_items)), (h0, .inr (9, oX6 v_fault_4 v_faultPlace_4 (.ref h3) (.ref h4) (.ref h5) (.ref h6) (.ref h7) (.ref h8) v_count (.ref h9) v_depth (.ref h1) (.ref h10) x_7 v_items (.ref h11) (.ref h12) (.ref h13) v_partCount))] H_8 := hP_8
          have hD_8 : va_D A [(h1, .inr (10, oX7 (.ref h2) v_text_count v_text_over v_text_there)), (h2, .inl (k0, nv_text_items, .inl v_text_items)), (h0, .inr (9, oX6 v_fault_4 v_faultPlace_4 (.ref h3) (.ref h4) (.ref h5) (.ref h6) (.ref h7) (.ref h8) v_count (.ref h9) v_depth (.ref h1) (.ref h10) x_7 v_items (.ref h11) (.ref h12) (.ref h13) v_partCount))] := hD_8
          obtain ⟨x_9, ex_9⟩ : ∃ y : Int32, y = l2_80 + 1 := ⟨_, rfl⟩
          refine lv_iinc (v := x_9) (lv' := [(2, .int x_9), (0, .ref h0), (1, .int l1_80)]) hx hb dX6_readHex_90 hl_b80 (k := 2) rfl ex_9.symm (by decide) rfl (fun ls_9 hl_9 => ?_)
          refine lv_goto (tgt := 4) hx hb dX6_readHex_93 (by decide) ?_
          exact ih_4 l1_80 x_9 x_7 _ _ _ (w_b80 x_7 ex_7 x_9 ex_9) hP_8 hD_8 hS_8 (lv_sub hl_9 [1, 2, 0] rfl)
        refine lv_if_eq (tgt := 41) hx hb dX6_readHex_25 (by decide) (fun c_10 => ?_) (fun c_10 => ?_)
        · refine lv_iload_n hx hb dX6_readHex_41 rfl (lv_at hl_5 0 rfl) ?_
          refine lv_bipush (v := 97) hx hb dX6_readHex_42 (by decide) ?_
          have k_69 : ∀ (v_fault_69 : Int32) (v_faultPlace_69 : Int32) (v_at_69 : Int32), ∀ (H_b69 : Heap) (locs_b69 : List Loc) (ls_b69 : Array Slot), w_X6_readHex_69 Q v_fault_69 v_faultPlace_69 v_at_69 → va_P (dC, dI) vwCl [(h1, .inr (10, oX7 (.ref h2) v_text_count v_text_over v_text_there)), (h2, .inl (k0, nv_text_items, .inl v_text_items)), (h0, .inr (9, oX6 v_fault_69 v_faultPlace_69 (.ref h3) (.ref h4) (.ref h5) (.ref h6) (.ref h7) (.ref h8) v_count (.ref h9) v_depth (.ref h1) (.ref h10) v_at_69 v_items (.ref h11) (.ref h12) (.ref h13) v_partCount))] H_b69 → va_D A [(h1, .inr (10, oX7 (.ref h2) v_text_count v_text_over v_text_there)), (h2, .inl (k0, nv_text_items, .inl v_text_items)), (h0, .inr (9, oX6 v_fault_69 v_faultPlace_69 (.ref h3) (.ref h4) (.ref h5) (.ref h6) (.ref h7) (.ref h8) v_count (.ref h9) v_depth (.ref h1) (.ref h10) v_at_69 v_items (.ref h11) (.ref h12) (.ref h13) v_partCount))] → va_S A s.heap H_b69 locs_b69 → lv_has ls_b69 4 [(0, .ref h0)] → W p l e ({ frames := 1, cells := 0, slots := 0, locals := 22 } : Room) s m ([.ref h0]).toArray below meth c H_b69 locs_b69 0 0 QQ (F0 m 69 ls_b69 []) := by
            intro v_fault_69 v_faultPlace_69 v_at_69 H_b69 locs_b69 ls_b69 w_b69 hP_b69 hD_b69 hS_b69 hl_b69
            unfold w_X6_readHex_69 at w_b69
            refine lv_aload_n hx hb dX6_readHex_69 rfl (lv_at hl_b69 0 rfl) ?_
            refine lv_iconst (v := 1) hx hb dX6_readHex_70 (by decide) ?_
            refine lv_aload_n hx hb dX6_readHex_71 rfl (lv_at hl_b69 0 rfl) ?_
            refine va_get (D := (dC, dI)) (ci := 9) (v := .int v_at_69) (C := RX6) (T := TX6) (N := 19) hx hb ht inX6 hown hK hP_b69 2 rfl rfl 13 (by decide) (ht _ tw_450) (fun _ h9 => h9) rfl dX6_readHex_72 ?_
            have hPc_11 := hP_b69.sub (ws' := [(h0, .inr (9, oX6 v_fault_69 v_faultPlace_69 (.ref h3) (.ref h4) (.ref h5) (.ref h6) (.ref h7) (.ref h8) v_count (.ref h9) v_depth (.ref h1) (.ref h10) v_at_69 v_items (.ref h11) (.ref h12) (.ref h13) v_partCount))]) [2] rfl
            have hDc_11 := hD_b69.sub (ws' := [(h0, .inr (9, oX6 v_fault_69 v_faultPlace_69 (.ref h3) (.ref h4) (.ref h5) (.ref h6) (.ref h7) (.ref h8) v_count (.ref h9) v_depth (.ref h1) (.ref h10) v_at_69 v_items (.ref h11) (.ref h12) (.ref h13) v_partCount))]) [2] (by decide) rfl
            have hKc_11 := hK.sub (tys' := []) [] rfl
            have hFc_11 := va_free (wc := [(h0, .inr (9, oX6 v_fault_69 v_faultPlace_69 (.ref h3) (.ref h4) (.ref h5) (.ref h6) (.ref h7) (.ref h8) v_count (.ref h9) v_depth (.ref h1) (.ref h10) v_at_69 v_items (.ref h11) (.ref h12) (.ref h13) v_partCount))]) hD_b69 hS_b69 hA [2] rfl
            refine va_callv (va_runV (As := [.int 1, .int v_at_69]) (rest := []) ⟨hx, hb, hml, hown, ht⟩ (mt_X6_blame l dC dI h0 h3 h4 h5 h6 h7 h8 h9 h1 h10 h11 h12 h13 1 v_at_69 v_fault_69 v_faultPlace_69 v_count v_depth v_at_69 v_items v_partCount _ w_b69 H_b69.size) (cwV 2 ht (goodV tw_931 tw_933 tw_8 tw_239 gw_X6_blame) rfl rfl rfl (by decide +kernel) ⟨Nat.le_of_ble_eq_true rfl, Nat.le_of_ble_eq_true rfl⟩) ⟨fun a U g mk q => by obtain ⟨q0, q1, qP, qK, qD⟩ := q; exact ⟨q0, q1, qP, va_K.moved (u := U) (U := U.calling g mk a) (Vm.Alike.refl U.vm) qK, qD⟩, va_recv hKc_11 hPc_11 (ci := 9) (q0 := 0) rfl rfl, fun U hU hW => ⟨rfl, by rw [hU], by rw [hU]; exact hPc_11, va_K.moved hW.alike hKc_11, hDc_11.weaken (fun _ _ _ _ => trivial)⟩⟩ rfl rfl hl_b69.1 rfl (lv_room (Nat.le_of_ble_eq_true rfl)) dX6_readHex_75 ⟨Nat.le_of_ble_eq_true rfl, Nat.le_of_ble_eq_true rfl⟩) hS_b69 (fun q _ h => hFc_11 q h) hFc_11 (fun u_11 t_11 H_11 locs_11 ht_11 hvm_11 hw_11 hB_11 hz_11 hk_11 hS_11 => ?_)
            subst hw_11
            obtain ⟨r_11_0, r_11_1, w_11, hP1_11, hD1_11⟩ := hB_11
            rw [ht_11] at hP1_11
            obtain ⟨hP_11, hD_11⟩ := va_join (wr := [(h1, .inr (10, oX7 (.ref h2) v_text_count v_text_over v_text_there)), (h2, .inl (k0, nv_text_items, .inl v_text_items))]) (w1 := [(h0, .inr (9, oX6 r_11_0 r_11_1 (.ref h3) (.ref h4) (.ref h5) (.ref h6) (.ref h7) (.ref h8) v_count (.ref h9) v_depth (.ref h1) (.ref h10) v_at_69 v_items (.ref h11) (.ref h12) (.ref h13) v_partCount))]) hP_b69 hD_b69 [2] [0, 1] rfl rfl (by decide) (by decide) hk_11 hFc_11 hP1_11 hD1_11
            have hP_11 := hP_11.sub (ws' := [(h1, .inr (10, oX7 (.ref h2) v_text_count v_text_over v_text_there)), (h2, .inl (k0, nv_text_items, .inl v_text_items)), (h0, .inr (9, oX6 r_11_0 r_11_1 (.ref h3) (.ref h4) (.ref h5) (.ref h6) (.ref h7) (.ref h8) v_count (.ref h9) v_depth (.ref h1) (.ref h10) v_at_69 v_items (.ref h11) (.ref h12) (.ref h13) v_partCount))]) [0, 1, 2] rfl
            have hD_11 := hD_11.sub (ws' := [(h1, .inr (10, oX7 (.ref h2) v_text_count v_text_over v_text_there)), (h2, .inl (k0, nv_text_items, .inl v_text_items)), (h0, .inr (9, oX6 r_11_0 r_11_1 (.ref h3) (.ref h4) (.ref h5) (.ref h6) (.ref h7) (.ref h8) v_count (.ref h9) v_depth (.ref h1) (.ref h10) v_at_69 v_items (.ref h11) (.ref h12) (.ref h13) v_partCount))]) [0, 1, 2] (by decide) rfl
            clear hPc_11 hDc_11 hKc_11 hFc_11 hP1_11 hD1_11 hk_11 hz_11
            refine lv_iconst (v := 0) hx hb dX6_readHex_78 (by decide) ?_
            rw [hQQ]
            exact W.iret (v := 0) hx hb hr (fun t9 ht9 hW9 => ⟨⟨0, 0, rfl, rfl, ⟨r_11_0, r_11_1, v_at_69, w_11, by rw [ht9]; exact hP_11, hD_11⟩⟩, hS_11.F ht9⟩) hS_11.2.2 dX6_readHex_79
          refine lv_icmp_lt (tgt := 69) hx hb dX6_readHex_44 (by decide) (fun c_12 => ?_) (fun c_12 => ?_)
          · exact k_69 v_fault_4 v_faultPlace_4 v_at_4 _ _ _ ((w_6.1 c_10).1 c_12) hP_6 hD_6 hS_6 (lv_sub hl_5 [1] rfl)
          · refine lv_iload_n hx hb dX6_readHex_47 rfl (lv_at hl_5 0 rfl) ?_
            refine lv_bipush (v := 102) hx hb dX6_readHex_48 (by decide) ?_
            refine lv_icmp_gt (tgt := 69) hx hb dX6_readHex_50 (by decide) (fun c_13 => ?_) (fun c_13 => ?_)
            · exact k_69 v_fault_4 v_faultPlace_4 v_at_4 _ _ _ (((w_6.1 c_10).2 c_12).1 c_13) hP_6 hD_6 hS_6 (lv_sub hl_5 [1] rfl)
            · refine lv_iload_n hx hb dX6_readHex_53 rfl (lv_at hl_5 2 rfl) ?_
              refine lv_bipush (v := 16) hx hb dX6_readHex_54 (by decide) ?_
              refine lv_imul hx hb dX6_readHex_56 ?_
              refine lv_topi (fun x_14 ex_14 => ?_)
              have ex_14 : x_14 = l1_4 * (16 : Int32) := ex_14
              refine lv_iload_n hx hb dX6_readHex_57 rfl (lv_at hl_5 0 rfl) ?_
              refine lv_iadd hx hb dX6_readHex_58 ?_
              refine lv_topi (fun x_15 ex_15 => ?_)
              have ex_15 : x_15 = x_14 + r_4 := ex_15
              refine lv_bipush (v := 97) hx hb dX6_readHex_59 (by decide) ?_
              refine lv_isub hx hb dX6_readHex_61 ?_
              refine lv_topi (fun x_16 ex_16 => ?_)
              have ex_16 : x_16 = x_15 - (97 : Int32) := ex_16
              refine lv_bipush (v := 10) hx hb dX6_readHex_62 (by decide) ?_
              refine lv_iadd hx hb dX6_readHex_64 ?_
              refine lv_topi (fun x_17 ex_17 => ?_)
              have ex_17 : x_17 = x_16 + (10 : Int32) := ex_17
              refine lv_istore_n (lv' := [(1, .int x_17), (3, .int r_4), (0, .ref h0), (2, .int l2_4)]) hx hb dX6_readHex_65 rfl hl_5 (by decide) rfl (fun ls_18 hl_18 => ?_)
              clear hl_5
              refine lv_goto (tgt := 80) hx hb dX6_readHex_66 (by decide) ?_
              have w_19 := ((((((w_6.1 c_10).2 c_12).2 c_13) x_14 ex_14) x_15 ex_15) x_16 ex_16) x_17 ex_17
              exact k_80 x_17 l2_4 v_at_4 _ _ _ w_19 hP_6 hD_6 hS_6 (lv_sub hl_18 [2, 0, 3] rfl)
        · refine lv_iload_n hx hb dX6_readHex_28 rfl (lv_at hl_5 2 rfl) ?_
          refine lv_bipush (v := 16) hx hb dX6_readHex_29 (by decide) ?_
          refine lv_imul hx hb dX6_readHex_31 ?_
          refine lv_topi (fun x_20 ex_20 => ?_)
          have ex_20 : x_20 = l1_4 * (16 : Int32) := ex_20
          refine lv_iload_n hx hb dX6_readHex_32 rfl (lv_at hl_5 0 rfl) ?_
          refine lv_iadd hx hb dX6_readHex_33 ?_
          refine lv_topi (fun x_21 ex_21 => ?_)
          have ex_21 : x_21 = x_20 + r_4 := ex_21
          refine lv_bipush (v := 48) hx hb dX6_readHex_34 (by decide) ?_
          refine lv_isub hx hb dX6_readHex_36 ?_
          refine lv_topi (fun x_22 ex_22 => ?_)
          have ex_22 : x_22 = x_21 - (48 : Int32) := ex_22
          refine lv_istore_n (lv' := [(1, .int x_22), (3, .int r_4), (0, .ref h0), (2, .int l2_4)]) hx hb dX6_readHex_37 rfl hl_5 (by decide) rfl (fun ls_23 hl_23 => ?_)
          clear hl_5
          refine lv_goto (tgt := 80) hx hb dX6_readHex_38 (by decide) ?_
          have w_24 := w_6.2 c_10 x_20 ex_20 x_21 ex_21 x_22 ex_22
          exact k_80 x_22 l2_4 v_at_4 _ _ _ w_24 hP_6 hD_6 hS_6 (lv_sub hl_23 [2, 0, 3] rfl)
  obtain ⟨n_25, w_25⟩ := w
  exact k_4 v_fault v_faultPlace n_25 0 0 v_at _ _ _ w_25 hP hD hS (lv_sub hl_2 [2, 1, 0] rfl)
def w_J7_fill_53178_v1_5B (p1 : Int32) (Q : (Nat → Int32) → Prop) (K5 : Int32 → (Nat → Int32) → Prop) (l3_5 : Int32) (l2_5 : Int32) (a0__5 : Nat → Int32) : Prop :=
  ((l3_5 ≤ l2_5) → Q  a0__5) ∧ ((¬ l3_5 ≤ l2_5) → vp_in l2_5 26 ∧ ∀ g_4 : Nat → Int32, g_4 = upd a0__5 l2_5.toNatClampNeg p1 → ∀ x_5 : Int32, x_5 = l2_5 + 1 → K5 x_5 g_4)
def w_J7_fill_53178_v1_5 (p1 : Int32) (Q : (Nat → Int32) → Prop) (l3_5 : Int32) : Nat → Int32 → (Nat → Int32) → Prop
  | 0, _, _ => False
  | n9 + 1, l2_5, a0__5 => w_J7_fill_53178_v1_5B p1 Q (w_J7_fill_53178_v1_5 p1 Q l3_5 n9) l3_5 l2_5 a0__5
def w_J7_fill_53178_v1 (p1 : Int32) (a0_ : Nat → Int32) (Q : (Nat → Int32) → Prop) : Prop :=
  ∃ k9 : Nat, w_J7_fill_53178_v1_5 p1 Q 26 k9 0 a0_
set_option maxHeartbeats 4000000 in
set_option maxRecDepth 100000 in
theorem mt_J7_fill_53178_v1 (l : Launch) (dC : Nat → ClassId) (dI : Nat → Nat → Nat) (h0 : Nat) (k0 : ClassId) (p1 : Int32) (a0_ : Nat → Int32) (Q : (Nat → Int32) → Prop) (w : w_J7_fill_53178_v1 p1 a0_ Q) (sz : Nat) : Met l yJ7_fill_53178 (WS yJ7_fill_53178 cJ7_fill_53178 4 none) ({ frames := 0, cells := 0, slots := 0, locals := 0 } : Room) (va_Pc [.ref h0, .int p1] (fun U => U.heap.size = sz ∧ va_P (dC, dI) vwCl [(h0, .inl (k0, 26, .inl a0_))] U.heap ∧ va_K (dC, dI) vwCl [(k0, .int)] U ∧ va_D (fun _ => True) [(h0, .inl (k0, 26, .inl a0_))])) (va_Qv (fun (u : Nat) => u = 0) (fun (_ : Nat) (t : State) => ∃ (oa0_ : Nat → Int32), (Q oa0_) ∧ va_P (dC, dI) vwCl [(h0, .inl (k0, 26, .inl oa0_))] t.heap ∧ va_D (va_A [(h0, .inl (k0, 26, .inl a0_))] sz) [(h0, .inl (k0, 26, .inl oa0_))]) (va_A [(h0, .inl (k0, 26, .inl a0_))] sz)) 0 0 (va_A [(h0, .inl (k0, 26, .inl a0_))] sz) := by
  refine Met.ofW (cc := cJ7_fill_53178) (maxL := 4) (ret := none) (by decide) rfl ?_
  intro p e s m args below meth c s₁ B hml hv
  obtain ⟨rfl, hsz, hP, hK, hD0⟩ := hv
  have hx := B.exec
  have hb := B.bytes
  have hr := B.returns
  have hts := atoms_spec (ws := WS yJ7_fill_53178 cJ7_fill_53178 4 none) B.pre
  have ht : ∀ w ∈ TW, w.before _ s = true := fun w h => hts w (List.mem_cons_of_mem _ h)
  have hown : s.vm.findClass "java/util/Arrays" = some m.cls := findClass_of_methodNamed B.named
  have hlocks := B.notSynchronized
  subst hsz
  have hD := hD0.self (sz := s.heap.size)
  generalize hAe : va_A [(h0, .inl (k0, 26, .inl a0_))] s.heap.size = A at hD ⊢
  have hA : ∀ q : Nat, s.heap.size ≤ q → A q := fun q h => by rw [← hAe]; exact Or.inr h
  have hS : va_S A s.heap s.heap [] := va_S.rf
  have hP : va_P (dC, dI) vwCl [(h0, .inl (k0, 26, .inl a0_))] s.heap := hP
  have hl := lv_entry ([.ref h0, .int p1]) (n := 4) (Nat.le_of_ble_eq_true rfl)
  rw [lg_entry_eq]
  generalize (lg_sl ([.ref h0, .int p1]) ++ List.replicate (4 - (lg_sl ([.ref h0, .int p1])).length) Slot.unset).toArray = ls at hl ⊢
  have hl : lv_has ls 4 [(0, .ref h0), (1, .int p1)] := hl
  clear hD0
  obtain ⟨QQ, hQQ⟩ : ∃ QQ, QQ = MQ below (va_Qv (fun (u : Nat) => u = 0) (fun (_ : Nat) (t : State) => ∃ (oa0_ : Nat → Int32), (Q oa0_) ∧ va_P (dC, dI) vwCl [(h0, .inl (k0, 26, .inl oa0_))] t.heap ∧ va_D A [(h0, .inl (k0, 26, .inl oa0_))]) A) ([.ref h0, .int p1]).toArray s 0 0 A := ⟨_, rfl⟩
  show W p l e ({ frames := 0, cells := 0, slots := 0, locals := 0 } : Room) s m ([.ref h0, .int p1]).toArray below meth c s.heap [] 0 0 (MQ below (va_Qv (fun (u : Nat) => u = 0) (fun (_ : Nat) (t : State) => ∃ (oa0_ : Nat → Int32), (Q oa0_) ∧ va_P (dC, dI) vwCl [(h0, .inl (k0, 26, .inl oa0_))] t.heap ∧ va_D A [(h0, .inl (k0, 26, .inl oa0_))]) A) ([.ref h0, .int p1]).toArray s 0 0 A) (F0 m 0 ls [])
  rw [← hQQ]
  unfold w_J7_fill_53178_v1 at w
  refine lv_iconst (v := 0) hx hb dJ7_fill_53178_0 (by decide) ?_
  refine lv_istore_n (lv' := [(2, .int 0), (0, .ref h0), (1, .int p1)]) hx hb dJ7_fill_53178_1 rfl hl (by decide) rfl (fun ls_1 hl_1 => ?_)
  clear hl
  refine lv_aload_n hx hb dJ7_fill_53178_2 rfl (lv_at hl_1 1 rfl) ?_
  refine va_alen hx hb hK hP 0 0 rfl rfl (v := 26) (show Int32.ofNat 26 = 26 by decide) dJ7_fill_53178_3 ?_
  refine lv_istore_n (lv' := [(3, .int 26), (2, .int 0), (0, .ref h0), (1, .int p1)]) hx hb dJ7_fill_53178_4 rfl hl_1 (by decide) rfl (fun ls_2 hl_2 => ?_)
  clear hl_1
  have k_5 : ∀ (l3_5 : Int32), ∀ n_5 : Nat, ∀ (l2_5 : Int32) (a0__5 : Nat → Int32), ∀ (H_b5 : Heap) (locs_b5 : List Loc) (ls_b5 : Array Slot), w_J7_fill_53178_v1_5 p1 Q l3_5 n_5 l2_5 a0__5 → va_P (dC, dI) vwCl [(h0, .inl (k0, 26, .inl a0__5))] H_b5 → va_D A [(h0, .inl (k0, 26, .inl a0__5))] → va_S A s.heap H_b5 locs_b5 → lv_has ls_b5 4 [(0, .ref h0), (1, .int p1), (2, .int l2_5), (3, .int l3_5)] → W p l e ({ frames := 0, cells := 0, slots := 0, locals := 0 } : Room) s m ([.ref h0, .int p1]).toArray below meth c H_b5 locs_b5 0 0 QQ (F0 m 5 ls_b5 []) := by
    intro l3_5
    intro n_5
    induction n_5 with
    | zero =>
      intro l2_5 a0__5 H_b5 locs_b5 ls_b5 w_b5 hP_b5 hD_b5 hS_b5 hl_b5
      exact False.elim (by unfold w_J7_fill_53178_v1_5 at w_b5; exact w_b5)
    | succ n_5 ih_5 =>
      intro l2_5 a0__5 H_b5 locs_b5 ls_b5 w_b5 hP_b5 hD_b5 hS_b5 hl_b5
      unfold w_J7_fill_53178_v1_5 at w_b5
      unfold w_J7_fill_53178_v1_5B at w_b5
      refine lv_iload_n hx hb dJ7_fill_53178_5 rfl (lv_at hl_b5 2 rfl) ?_
      refine lv_iload_n hx hb dJ7_fill_53178_6 rfl (lv_at hl_b5 3 rfl) ?_
      refine lv_icmp_ge (tgt := 20) hx hb dJ7_fill_53178_7 (by decide) (fun c_3 => ?_) (fun c_3 => ?_)
      · rw [hQQ]
        exact W.vret hx hb hr (fun t9 ht9 hW9 => ⟨⟨0, rfl, rfl, ⟨a0__5, w_b5.1 c_3, by rw [ht9]; exact hP_b5, hD_b5⟩⟩, hS_b5.F ht9⟩) hS_b5.2.2 dJ7_fill_53178_20
      · refine lv_aload_n hx hb dJ7_fill_53178_10 rfl (lv_at hl_b5 0 rfl) ?_
        refine lv_iload_n hx hb dJ7_fill_53178_11 rfl (lv_at hl_b5 2 rfl) ?_
        refine lv_iload_n hx hb dJ7_fill_53178_12 rfl (lv_at hl_b5 1 rfl) ?_
        refine va_iast hx hb hK hP_b5 hD_b5 hS_b5 0 0 rfl rfl (i := l2_5) (w_b5.2 c_3).1 dJ7_fill_53178_13 (fun H_4 locs_4 hP_4 hD_4 hS_4 => ?_)
        obtain ⟨g_4, hg_4⟩ : ∃ g : Nat → Int32, g = upd a0__5 l2_5.toNatClampNeg p1 := ⟨_, rfl⟩
        have hP_4 : va_P (dC, dI) vwCl [(h0, .inl (k0, 26, .inl g_4))] H_4 := by rw [hg_4]; exact hP_4
        have hD_4 : va_D A [(h0, .inl (k0, 26, .inl g_4))] := by rw [hg_4]; exact hD_4
        obtain ⟨x_5, ex_5⟩ : ∃ y : Int32, y = l2_5 + 1 := ⟨_, rfl⟩
        refine lv_iinc (v := x_5) (lv' := [(2, .int x_5), (0, .ref h0), (1, .int p1), (3, .int l3_5)]) hx hb dJ7_fill_53178_14 hl_b5 (k := 2) rfl ex_5.symm (by decide) rfl (fun ls_5 hl_5 => ?_)
        refine lv_goto (tgt := 5) hx hb dJ7_fill_53178_17 (by decide) ?_
        exact ih_5 x_5 g_4 _ _ _ ((((w_b5.2 c_3).2) g_4 hg_4) x_5 ex_5) hP_4 hD_4 hS_4 (lv_sub hl_5 [1, 2, 0, 3] rfl)
  obtain ⟨n_6, w_6⟩ := w
  exact k_5 26 n_6 0 a0_ _ _ _ w_6 hP hD hS (lv_sub hl_2 [2, 3, 1, 0] rfl)
def w_X11_isLetter_22 (Q : Int32 → Prop) (s0_22 : Int32) : Prop :=
  (s0_22 = 0 ∨ s0_22 = 1) ∧ Q s0_22
def w_X11_isLetter_21 (Q : Int32 → Prop) : Prop :=
  w_X11_isLetter_22 Q 0
def w_X11_isLetter (p0 : Int32) (Q : Int32 → Prop) : Prop :=
  ∀ x_1 : Int32, x_1 = p0 ||| (32 : Int32) → ((x_1 < 97) → w_X11_isLetter_21 Q) ∧ ((¬ x_1 < 97) → ((122 < x_1) → w_X11_isLetter_21 Q) ∧ ((¬ 122 < x_1) → w_X11_isLetter_22 Q 1))
set_option maxHeartbeats 4000000 in
set_option maxRecDepth 100000 in
theorem mt_X11_isLetter (l : Launch) (dC : Nat → ClassId) (dI : Nat → Nat → Nat) (p0 : Int32) (Q : Int32 → Prop) (w : w_X11_isLetter p0 Q) (sz : Nat) : Met l yX11_isLetter (WS yX11_isLetter cX11_isLetter 2 (some (.boolean))) ({ frames := 0, cells := 0, slots := 0, locals := 0 } : Room) (va_Pc [.int p0] (fun U => U.heap.size = sz ∧ va_P (dC, dI) vwCl [] U.heap ∧ va_K (dC, dI) vwCl [] U ∧ va_D (fun _ => True) [])) (va_Qi (fun (r u : Int32) => r = u) (fun (u : Int32) (t : State) => (Q u) ∧ va_P (dC, dI) vwCl [] t.heap ∧ va_D (va_A [] sz) []) (va_A [] sz)) 0 0 (va_A [] sz) := by
  refine Met.ofW (cc := cX11_isLetter) (maxL := 2) (ret := (some (.boolean))) (by decide) rfl ?_
  intro p e s m args below meth c s₁ B hml hv
  obtain ⟨rfl, hsz, hP, hK, hD0⟩ := hv
  have hx := B.exec
  have hb := B.bytes
  have hr := B.returns
  have hts := atoms_spec (ws := WS yX11_isLetter cX11_isLetter 2 (some (.boolean))) B.pre
  have ht : ∀ w ∈ TW, w.before _ s = true := fun w h => hts w (List.mem_cons_of_mem _ h)
  have hown : s.vm.findClass "PatternWorkshop" = some m.cls := findClass_of_methodNamed B.named
  have hlocks := B.notSynchronized
  subst hsz
  have hD := hD0.self (sz := s.heap.size)
  generalize hAe : va_A [] s.heap.size = A at hD ⊢
  have hA : ∀ q : Nat, s.heap.size ≤ q → A q := fun q h => by rw [← hAe]; exact Or.inr h
  have hS : va_S A s.heap s.heap [] := va_S.rf
  have hP : va_P (dC, dI) vwCl [] s.heap := hP
  have hl := lv_entry ([.int p0]) (n := 2) (Nat.le_of_ble_eq_true rfl)
  rw [lg_entry_eq]
  generalize (lg_sl ([.int p0]) ++ List.replicate (2 - (lg_sl ([.int p0])).length) Slot.unset).toArray = ls at hl ⊢
  have hl : lv_has ls 2 [(0, .int p0)] := hl
  clear hD0
  obtain ⟨QQ, hQQ⟩ : ∃ QQ, QQ = MQ below (va_Qi (fun (r u : Int32) => r = u) (fun (u : Int32) (t : State) => (Q u) ∧ va_P (dC, dI) vwCl [] t.heap ∧ va_D A []) A) ([.int p0]).toArray s 0 0 A := ⟨_, rfl⟩
  show W p l e ({ frames := 0, cells := 0, slots := 0, locals := 0 } : Room) s m ([.int p0]).toArray below meth c s.heap [] 0 0 (MQ below (va_Qi (fun (r u : Int32) => r = u) (fun (u : Int32) (t : State) => (Q u) ∧ va_P (dC, dI) vwCl [] t.heap ∧ va_D A []) A) ([.int p0]).toArray s 0 0 A) (F0 m 0 ls [])
  rw [← hQQ]
  unfold w_X11_isLetter at w
  refine lv_iload_n hx hb dX11_isLetter_0 rfl (lv_at hl 0 rfl) ?_
  refine lv_bipush (v := 32) hx hb dX11_isLetter_1 (by decide) ?_
  refine lv_ior hx hb dX11_isLetter_3 ?_
  refine lv_topi (fun x_1 ex_1 => ?_)
  have ex_1 : x_1 = p0 ||| (32 : Int32) := ex_1
  refine lv_istore_n (lv' := [(1, .int x_1), (0, .int p0)]) hx hb dX11_isLetter_4 rfl hl (by decide) rfl (fun ls_2 hl_2 => ?_)
  clear hl
  refine lv_iload_n hx hb dX11_isLetter_5 rfl (lv_at hl_2 0 rfl) ?_
  refine lv_bipush (v := 97) hx hb dX11_isLetter_6 (by decide) ?_
  have k_22 : ∀ (s0_22 : Int32), ∀ (H_b22 : Heap) (locs_b22 : List Loc) (ls_b22 : Array Slot), w_X11_isLetter_22 Q s0_22 → va_P (dC, dI) vwCl [] H_b22 → va_D A [] → va_S A s.heap H_b22 locs_b22 → lv_has ls_b22 2 [] → W p l e ({ frames := 0, cells := 0, slots := 0, locals := 0 } : Room) s m ([.int p0]).toArray below meth c H_b22 locs_b22 0 0 QQ (F0 m 22 ls_b22 [.int s0_22]) := by
    intro s0_22 H_b22 locs_b22 ls_b22 w_b22 hP_b22 hD_b22 hS_b22 hl_b22
    unfold w_X11_isLetter_22 at w_b22
    rw [hQQ]
    exact W.zret (v := s0_22) hx hb hr (or_nar w_b22.1) (fun t9 ht9 hW9 => ⟨⟨s0_22, s0_22, rfl, rfl, ⟨w_b22.2, by rw [ht9]; exact hP_b22, hD_b22⟩⟩, hS_b22.F ht9⟩) hS_b22.2.2 dX11_isLetter_22
  have k_21 : ∀ (H_b21 : Heap) (locs_b21 : List Loc) (ls_b21 : Array Slot), w_X11_isLetter_21 Q → va_P (dC, dI) vwCl [] H_b21 → va_D A [] → va_S A s.heap H_b21 locs_b21 → lv_has ls_b21 2 [] → W p l e ({ frames := 0, cells := 0, slots := 0, locals := 0 } : Room) s m ([.int p0]).toArray below meth c H_b21 locs_b21 0 0 QQ (F0 m 21 ls_b21 []) := by
    intro  H_b21 locs_b21 ls_b21 w_b21 hP_b21 hD_b21 hS_b21 hl_b21
    unfold w_X11_isLetter_21 at w_b21
    refine lv_iconst (v := 0) hx hb dX11_isLetter_21 (by decide) ?_
    exact k_22 0 _ _ _ w_b21 hP_b21 hD_b21 hS_b21 (lv_sub hl_b21 [] rfl)
  refine lv_icmp_lt (tgt := 21) hx hb dX11_isLetter_8 (by decide) (fun c_3 => ?_) (fun c_3 => ?_)
  · exact k_21  _ _ _ ((w x_1 ex_1).1 c_3) hP hD hS (lv_sub hl_2 [] rfl)
  · refine lv_iload_n hx hb dX11_isLetter_11 rfl (lv_at hl_2 0 rfl) ?_
    refine lv_bipush (v := 122) hx hb dX11_isLetter_12 (by decide) ?_
    refine lv_icmp_gt (tgt := 21) hx hb dX11_isLetter_14 (by decide) (fun c_4 => ?_) (fun c_4 => ?_)
    · exact k_21  _ _ _ (((w x_1 ex_1).2 c_3).1 c_4) hP hD hS (lv_sub hl_2 [] rfl)
    · refine lv_iconst (v := 1) hx hb dX11_isLetter_17 (by decide) ?_
      refine lv_goto (tgt := 22) hx hb dX11_isLetter_18 (by decide) ?_
      exact k_22 1 _ _ _ (((w x_1 ex_1).2 c_3).2 c_4) hP hD hS (lv_sub hl_2 [] rfl)
def w_X6_readMember_120 (Q : Int32 → Int32 → Int32 → Int32 → Prop) (l1_120 : Int32) (v_fault_120 : Int32) (v_faultPlace_120 : Int32) (v_at_120 : Int32) : Prop :=
  ∀ x_3 : Int32, x_3 = v_at_120 + (1 : Int32) → Q l1_120 v_fault_120 v_faultPlace_120 x_3
def w_X6_readMember_111 (Q : Int32 → Int32 → Int32 → Int32 → Prop) (l1_111 : Int32) (v_fault_111 : Int32) (v_faultPlace_111 : Int32) (v_at_111 : Int32) : Prop :=
  w_X6_blame 1 v_at_111 v_fault_111 v_faultPlace_111 (fun r_7_0 r_7_1 => w_X6_readMember_120 Q l1_111 r_7_0 r_7_1 v_at_111)
def w_X6_readMember_68 (Q : Int32 → Int32 → Int32 → Int32 → Prop) (l1_68 : Int32) (v_fault_68 : Int32) (v_faultPlace_68 : Int32) (v_at_68 : Int32) : Prop :=
  w_X6_blame 1 v_at_68 v_fault_68 v_faultPlace_68 (fun r_21_0 r_21_1 => w_X6_readMember_120 Q l1_68 r_21_0 r_21_1 v_at_68)
def w_X6_readMember (v_text_count : Int32) (v_text_items : Nat → Int32) (nv_text_items : Nat) (v_fault : Int32) (v_faultPlace : Int32) (v_at : Int32) (Q : Int32 → Int32 → Int32 → Int32 → Prop) : Prop :=
  w_X6_here v_text_count v_text_items nv_text_items v_at (fun r_1 => ((¬ r_1 = 92) → w_X11_isTapeSign r_1 (fun r_6 => ((r_6 = 0) → w_X6_readMember_111 Q r_1 v_fault v_faultPlace v_at) ∧ ((¬ r_6 = 0) → ((r_1 = 91) → w_X6_readMember_111 Q r_1 v_fault v_faultPlace v_at) ∧ ((¬ r_1 = 91) → ((r_1 = 93) → w_X6_readMember_111 Q r_1 v_fault v_faultPlace v_at) ∧ ((¬ r_1 = 93) → ((r_1 = 94) → w_X6_readMember_111 Q r_1 v_fault v_faultPlace v_at) ∧ ((¬ r_1 = 94) → ((¬ r_1 = 45) → w_X6_readMember_120 Q r_1 v_fault v_faultPlace v_at) ∧ ((r_1 = 45) → w_X6_readMember_111 Q r_1 v_fault v_faultPlace v_at))))))) ∧ ((r_1 = 92) → ∀ x_15 : Int32, x_15 = v_at + (1 : Int32) → w_X6_here v_text_count v_text_items nv_text_items x_15 (fun r_17 => ((¬ r_17 = 120) → w_X11_isTapeSign r_17 (fun r_20 => ((r_20 = 0) → w_X6_readMember_68 Q r_17 v_fault v_faultPlace x_15) ∧ ((¬ r_20 = 0) → w_X11_isLetter r_17 (fun r_23 => ((¬ r_23 = 0) → w_X6_readMember_68 Q r_17 v_fault v_faultPlace x_15) ∧ ((r_23 = 0) → w_X11_isDigit r_17 (fun r_25 => ((r_25 = 0) → w_X6_readMember_120 Q r_17 v_fault v_faultPlace x_15) ∧ ((¬ r_25 = 0) → w_X6_readMember_68 Q r_17 v_fault v_faultPlace x_15))))))) ∧ ((r_17 = 120) → ∀ x_27 : Int32, x_27 = x_15 + (1 : Int32) → w_X6_readHex v_text_count v_text_items nv_text_items v_fault v_faultPlace x_27 (fun r_29 r_29_0 r_29_1 r_29_2 => Q r_29 r_29_0 r_29_1 r_29_2)))))
set_option maxHeartbeats 4000000 in
set_option maxRecDepth 100000 in
theorem mt_X6_readMember (l : Launch) (dC : Nat → ClassId) (dI : Nat → Nat → Nat) (h0 h1 h2 h3 h4 h5 h6 h7 h8 h9 h10 h11 h12 h13 : Nat) (k0 : ClassId) (v_text_count : Int32) (v_text_over : Bool) (v_text_there : Bool) (v_text_items : Nat → Int32) (nv_text_items : Nat) (v_fault : Int32) (v_faultPlace : Int32) (v_count : Int32) (v_depth : Int32) (v_at : Int32) (v_items : Int32) (v_partCount : Int32) (Q : Int32 → Int32 → Int32 → Int32 → Prop) (w : w_X6_readMember v_text_count v_text_items nv_text_items v_fault v_faultPlace v_at Q) (sz : Nat) : Met l yX6_readMember (WS yX6_readMember cX6_readMember 2 (some (.int))) ({ frames := 2, cells := 0, slots := 0, locals := 45 } : Room) (va_Pc [.ref h0] (fun U => U.heap.size = sz ∧ va_P (dC, dI) vwCl [(h1, .inr (10, oX7 (.ref h2) v_text_count v_text_over v_text_there)), (h2, .inl (k0, nv_text_items, .inl v_text_items)), (h0, .inr (9, oX6 v_fault v_faultPlace (.ref h3) (.ref h4) (.ref h5) (.ref h6) (.ref h7) (.ref h8) v_count (.ref h9) v_depth (.ref h1) (.ref h10) v_at v_items (.ref h11) (.ref h12) (.ref h13) v_partCount))] U.heap ∧ va_K (dC, dI) vwCl [(k0, .int)] U ∧ va_D (fun _ => True) [(h1, .inr (10, oX7 (.ref h2) v_text_count v_text_over v_text_there)), (h2, .inl (k0, nv_text_items, .inl v_text_items)), (h0, .inr (9, oX6 v_fault v_faultPlace (.ref h3) (.ref h4) (.ref h5) (.ref h6) (.ref h7) (.ref h8) v_count (.ref h9) v_depth (.ref h1) (.ref h10) v_at v_items (.ref h11) (.ref h12) (.ref h13) v_partCount))] ∧ EX U)) (va_Qi (fun (r u : Int32) => r = u) (fun (u : Int32) (t : State) => ∃ (ov_fault : Int32), ∃ (ov_faultPlace : Int32), ∃ (ov_at : Int32), (Q u ov_fault ov_faultPlace ov_at) ∧ va_P (dC, dI) vwCl [(h1, .inr (10, oX7 (.ref h2) v_text_count v_text_over v_text_there)), (h2, .inl (k0, nv_text_items, .inl v_text_items)), (h0, .inr (9, oX6 ov_fault ov_faultPlace (.ref h3) (.ref h4) (.ref h5) (.ref h6) (.ref h7) (.ref h8) v_count (.ref h9) v_depth (.ref h1) (.ref h10) ov_at v_items (.ref h11) (.ref h12) (.ref h13) v_partCount))] t.heap ∧ va_D (va_A [(h1, .inr (10, oX7 (.ref h2) v_text_count v_text_over v_text_there)), (h2, .inl (k0, nv_text_items, .inl v_text_items)), (h0, .inr (9, oX6 v_fault v_faultPlace (.ref h3) (.ref h4) (.ref h5) (.ref h6) (.ref h7) (.ref h8) v_count (.ref h9) v_depth (.ref h1) (.ref h10) v_at v_items (.ref h11) (.ref h12) (.ref h13) v_partCount))] sz) [(h1, .inr (10, oX7 (.ref h2) v_text_count v_text_over v_text_there)), (h2, .inl (k0, nv_text_items, .inl v_text_items)), (h0, .inr (9, oX6 ov_fault ov_faultPlace (.ref h3) (.ref h4) (.ref h5) (.ref h6) (.ref h7) (.ref h8) v_count (.ref h9) v_depth (.ref h1) (.ref h10) ov_at v_items (.ref h11) (.ref h12) (.ref h13) v_partCount))]) (va_A [(h1, .inr (10, oX7 (.ref h2) v_text_count v_text_over v_text_there)), (h2, .inl (k0, nv_text_items, .inl v_text_items)), (h0, .inr (9, oX6 v_fault v_faultPlace (.ref h3) (.ref h4) (.ref h5) (.ref h6) (.ref h7) (.ref h8) v_count (.ref h9) v_depth (.ref h1) (.ref h10) v_at v_items (.ref h11) (.ref h12) (.ref h13) v_partCount))] sz)) 0 0 (va_A [(h1, .inr (10, oX7 (.ref h2) v_text_count v_text_over v_text_there)), (h2, .inl (k0, nv_text_items, .inl v_text_items)), (h0, .inr (9, oX6 v_fault v_faultPlace (.ref h3) (.ref h4) (.ref h5) (.ref h6) (.ref h7) (.ref h8) v_count (.ref h9) v_depth (.ref h1) (.ref h10) v_at v_items (.ref h11) (.ref h12) (.ref h13) v_partCount))] sz) := by
  refine Met.ofW (cc := cX6_readMember) (maxL := 2) (ret := (some (.int))) (by decide) rfl ?_
  intro p e s m args below meth c s₁ B hml hv
  obtain ⟨rfl, hsz, hP, hK, hD0, hE⟩ := hv
  have hx := B.exec
  have hb := B.bytes
  have hr := B.returns
  have hts := atoms_spec (ws := WS yX6_readMember cX6_readMember 2 (some (.int))) B.pre
  have ht : ∀ w ∈ TW, w.before _ s = true := fun w h => hts w (List.mem_cons_of_mem _ h)
  have hown : s.vm.findClass "PatternWorkshop$Reader" = some m.cls := findClass_of_methodNamed B.named
  have hlocks := B.notSynchronized
  subst hsz
  have hD := hD0.self (sz := s.heap.size)
  generalize hAe : va_A [(h1, .inr (10, oX7 (.ref h2) v_text_count v_text_over v_text_there)), (h2, .inl (k0, nv_text_items, .inl v_text_items)), (h0, .inr (9, oX6 v_fault v_faultPlace (.ref h3) (.ref h4) (.ref h5) (.ref h6) (.ref h7) (.ref h8) v_count (.ref h9) v_depth (.ref h1) (.ref h10) v_at v_items (.ref h11) (.ref h12) (.ref h13) v_partCount))] s.heap.size = A at hD ⊢
  have hA : ∀ q : Nat, s.heap.size ≤ q → A q := fun q h => by rw [← hAe]; exact Or.inr h
  have hS : va_S A s.heap s.heap [] := va_S.rf
  have hP : va_P (dC, dI) vwCl [(h1, .inr (10, oX7 (.ref h2) v_text_count v_text_over v_text_there)), (h2, .inl (k0, nv_text_items, .inl v_text_items)), (h0, .inr (9, oX6 v_fault v_faultPlace (.ref h3) (.ref h4) (.ref h5) (.ref h6) (.ref h7) (.ref h8) v_count (.ref h9) v_depth (.ref h1) (.ref h10) v_at v_items (.ref h11) (.ref h12) (.ref h13) v_partCount))] s.heap := hP
  have hl := lv_entry ([.ref h0]) (n := 2) (Nat.le_of_ble_eq_true rfl)
  rw [lg_entry_eq]
  generalize (lg_sl ([.ref h0]) ++ List.replicate (2 - (lg_sl ([.ref h0])).length) Slot.unset).toArray = ls at hl ⊢
  have hl : lv_has ls 2 [(0, .ref h0)] := hl
  clear hD0
  obtain ⟨QQ, hQQ⟩ : ∃ QQ, QQ = MQ below (va_Qi (fun (r u : Int32) => r = u) (fun (u : Int32) (t : State) => ∃ (ov_fault : Int32), ∃ (ov_faultPlace : Int32), ∃ (ov_at : Int32), (Q u ov_fault ov_faultPlace ov_at) ∧ va_P (dC, dI) vwCl [(h1, .inr (10, oX7 (.ref h2) v_text_count v_text_over v_text_there)), (h2, .inl (k0, nv_text_items, .inl v_text_items)), (h0, .inr (9, oX6 ov_fault ov_faultPlace (.ref h3) (.ref h4) (.ref h5) (.ref h6) (.ref h7) (.ref h8) v_count (.ref h9) v_depth (.ref h1) (.ref h10) ov_at v_items (.ref h11) (.ref h12) (.ref h13) v_partCount))] t.heap ∧ va_D A [(h1, .inr (10, oX7 (.ref h2) v_text_count v_text_over v_text_there)), (h2, .inl (k0, nv_text_items, .inl v_text_items)), (h0, .inr (9, oX6 ov_fault ov_faultPlace (.ref h3) (.ref h4) (.ref h5) (.ref h6) (.ref h7) (.ref h8) v_count (.ref h9) v_depth (.ref h1) (.ref h10) ov_at v_items (.ref h11) (.ref h12) (.ref h13) v_partCount))]) A) ([.ref h0]).toArray s 0 0 A := ⟨_, rfl⟩
  show W p l e ({ frames := 2, cells := 0, slots := 0, locals := 45 } : Room) s m ([.ref h0]).toArray below meth c s.heap [] 0 0 (MQ below (va_Qi (fun (r u : Int32) => r = u) (fun (u : Int32) (t : State) => ∃ (ov_fault : Int32), ∃ (ov_faultPlace : Int32), ∃ (ov_at : Int32), (Q u ov_fault ov_faultPlace ov_at) ∧ va_P (dC, dI) vwCl [(h1, .inr (10, oX7 (.ref h2) v_text_count v_text_over v_text_there)), (h2, .inl (k0, nv_text_items, .inl v_text_items)), (h0, .inr (9, oX6 ov_fault ov_faultPlace (.ref h3) (.ref h4) (.ref h5) (.ref h6) (.ref h7) (.ref h8) v_count (.ref h9) v_depth (.ref h1) (.ref h10) ov_at v_items (.ref h11) (.ref h12) (.ref h13) v_partCount))] t.heap ∧ va_D A [(h1, .inr (10, oX7 (.ref h2) v_text_count v_text_over v_text_there)), (h2, .inl (k0, nv_text_items, .inl v_text_items)), (h0, .inr (9, oX6 ov_fault ov_faultPlace (.ref h3) (.ref h4) (.ref h5) (.ref h6) (.ref h7) (.ref h8) v_count (.ref h9) v_depth (.ref h1) (.ref h10) ov_at v_items (.ref h11) (.ref h12) (.ref h13) v_partCount))]) A) ([.ref h0]).toArray s 0 0 A) (F0 m 0 ls [])
  rw [← hQQ]
  unfold w_X6_readMember at w
  refine lv_aload_n hx hb dX6_readMember_0 rfl (lv_at hl 0 rfl) ?_
  have hPc_1 := hP.sub (ws' := [(h1, .inr (10, oX7 (.ref h2) v_text_count v_text_over v_text_there)), (h2, .inl (k0, nv_text_items, .inl v_text_items)), (h0, .inr (9, oX6 v_fault v_faultPlace (.ref h3) (.ref h4) (.ref h5) (.ref h6) (.ref h7) (.ref h8) v_count (.ref h9) v_depth (.ref h1) (.ref h10) v_at v_items (.ref h11) (.ref h12) (.ref h13) v_partCount))]) [0, 1, 2] rfl
  have hDc_1 := hD.sub (ws' := [(h1, .inr (10, oX7 (.ref h2) v_text_count v_text_over v_text_there)), (h2, .inl (k0, nv_text_items, .inl v_text_items)), (h0, .inr (9, oX6 v_fault v_faultPlace (.ref h3) (.ref h4) (.ref h5) (.ref h6) (.ref h7) (.ref h8) v_count (.ref h9) v_depth (.ref h1) (.ref h10) v_at v_items (.ref h11) (.ref h12) (.ref h13) v_partCount))]) [0, 1, 2] (by decide) rfl
  have hKc_1 := hK.sub (tys' := [(k0, .int)]) [0] rfl
  have hFc_1 := va_free (wc := [(h1, .inr (10, oX7 (.ref h2) v_text_count v_text_over v_text_there)), (h2, .inl (k0, nv_text_items, .inl v_text_items)), (h0, .inr (9, oX6 v_fault v_faultPlace (.ref h3) (.ref h4) (.ref h5) (.ref h6) (.ref h7) (.ref h8) v_count (.ref h9) v_depth (.ref h1) (.ref h10) v_at v_items (.ref h11) (.ref h12) (.ref h13) v_partCount))]) hD hS hA [0, 1, 2] rfl
  refine va_calli (va_runV (As := []) (rest := []) ⟨hx, hb, hml, hown, ht⟩ (mt_X6_here l dC dI h0 h1 h2 h3 h4 h5 h6 h7 h8 h9 h10 h11 h12 h13 k0 v_text_count v_text_over v_text_there v_text_items nv_text_items v_fault v_faultPlace v_count v_depth v_at v_items v_partCount _ w s.heap.size) (cwV 0 ht (goodV tw_903 tw_905 tw_2 tw_239 gw_X6_here) rfl rfl rfl (by decide +kernel) ⟨Nat.le_of_ble_eq_true rfl, Nat.le_of_ble_eq_true rfl⟩) ⟨fun a U g mk q => by obtain ⟨q0, q1, qP, qK, qD⟩ := q; exact ⟨q0, q1, qP, va_K.moved (u := U) (U := U.calling g mk a) (Vm.Alike.refl U.vm) qK, qD⟩, va_recv hKc_1 hPc_1 (ci := 9) (q0 := 2) rfl rfl, fun U hU hW => ⟨rfl, by rw [hU], by rw [hU]; exact hPc_1, va_K.moved hW.alike hKc_1, hDc_1.weaken (fun _ _ _ _ => trivial)⟩⟩ rfl rfl hl.1 rfl (lv_room (Nat.le_of_ble_eq_true rfl)) dX6_readMember_1 ⟨Nat.le_of_ble_eq_true rfl, Nat.le_of_ble_eq_true rfl⟩) hS (fun q _ h => hFc_1 q h) hFc_1 (fun r_1 u_1 t_1 H_1 locs_1 ht_1 hvm_1 hw_1 hB_1 hz_1 hk_1 hS_1 => ?_)
  subst hw_1
  obtain ⟨w_1, hP1_1, hD1_1⟩ := hB_1
  rw [ht_1] at hP1_1
  obtain ⟨hP_1, hD_1⟩ := va_join (wr := []) (w1 := [(h1, .inr (10, oX7 (.ref h2) v_text_count v_text_over v_text_there)), (h2, .inl (k0, nv_text_items, .inl v_text_items)), (h0, .inr (9, oX6 v_fault v_faultPlace (.ref h3) (.ref h4) (.ref h5) (.ref h6) (.ref h7) (.ref h8) v_count (.ref h9) v_depth (.ref h1) (.ref h10) v_at v_items (.ref h11) (.ref h12) (.ref h13) v_partCount))]) hP hD [0, 1, 2] [] rfl rfl (by decide) (by decide) hk_1 hFc_1 hP1_1 hD1_1
  have hP_1 := hP_1.sub (ws' := [(h1, .inr (10, oX7 (.ref h2) v_text_count v_text_over v_text_there)), (h2, .inl (k0, nv_text_items, .inl v_text_items)), (h0, .inr (9, oX6 v_fault v_faultPlace (.ref h3) (.ref h4) (.ref h5) (.ref h6) (.ref h7) (.ref h8) v_count (.ref h9) v_depth (.ref h1) (.ref h10) v_at v_items (.ref h11) (.ref h12) (.ref h13) v_partCount))]) [0, 1, 2] rfl
  have hD_1 := hD_1.sub (ws' := [(h1, .inr (10, oX7 (.ref h2) v_text_count v_text_over v_text_there)), (h2, .inl (k0, nv_text_items, .inl v_text_items)), (h0, .inr (9, oX6 v_fault v_faultPlace (.ref h3) (.ref h4) (.ref h5) (.ref h6) (.ref h7) (.ref h8) v_count (.ref h9) v_depth (.ref h1) (.ref h10) v_at v_items (.ref h11) (.ref h12) (.ref h13) v_partCount))]) [0, 1, 2] (by decide) rfl
  clear hPc_1 hDc_1 hKc_1 hFc_1 hP1_1 hD1_1 hk_1 hz_1
  refine lv_istore_n (lv' := [(1, .int r_1), (0, .ref h0)]) hx hb dX6_readMember_4 rfl hl (by decide) rfl (fun ls_2 hl_2 => ?_)
  clear hl
  refine lv_iload_n hx hb dX6_readMember_5 rfl (lv_at hl_2 0 rfl) ?_
  refine lv_bipush (v := 92) hx hb dX6_readMember_6 (by decide) ?_
  have k_120 : ∀ (l1_120 : Int32) (v_fault_120 : Int32) (v_faultPlace_120 : Int32) (v_at_120 : Int32), ∀ (H_b120 : Heap) (locs_b120 : List Loc) (ls_b120 : Array Slot), w_X6_readMember_120 Q l1_120 v_fault_120 v_faultPlace_120 v_at_120 → va_P (dC, dI) vwCl [(h1, .inr (10, oX7 (.ref h2) v_text_count v_text_over v_text_there)), (h2, .inl (k0, nv_text_items, .inl v_text_items)), (h0, .inr (9, oX6 v_fault_120 v_faultPlace_120 (.ref h3) (.ref h4) (.ref h5) (.ref h6) (.ref h7) (.ref h8) v_count (.ref h9) v_depth (.ref h1) (.ref h10) v_at_120 v_items (.ref h11) (.ref h12) (.ref h13) v_partCount))] H_b120 → va_D A [(h1, .inr (10, oX7 (.ref h2) v_text_count v_text_over v_text_there)), (h2, .inl (k0, nv_text_items, .inl v_text_items)), (h0, .inr (9, oX6 v_fault_120 v_faultPlace_120 (.ref h3) (.ref h4) (.ref h5) (.ref h6) (.ref h7) (.ref h8) v_count (.ref h9) v_depth (.ref h1) (.ref h10) v_at_120 v_items (.ref h11) (.ref h12) (.ref h13) v_partCount))] → va_S A s.heap H_b120 locs_b120 → lv_has ls_b120 2 [(0, .ref h0), (1, .int l1_120)] → W p l e ({ frames := 2, cells := 0, slots := 0, locals := 45 } : Room) s m ([.ref h0]).toArray below meth c H_b120 locs_b120 0 0 QQ (F0 m 120 ls_b120 []) := by
    intro l1_120 v_fault_120 v_faultPlace_120 v_at_120 H_b120 locs_b120 ls_b120 w_b120 hP_b120 hD_b120 hS_b120 hl_b120
    unfold w_X6_readMember_120 at w_b120
    refine lv_aload_n hx hb dX6_readMember_120 rfl (lv_at hl_b120 0 rfl) ?_
    refine lv_dup hx hb dX6_readMember_121 rfl ?_
    refine va_get (D := (dC, dI)) (ci := 9) (v := .int v_at_120) (C := RX6) (T := TX6) (N := 19) hx hb ht inX6 hown hK hP_b120 2 rfl rfl 13 (by decide) (ht _ tw_450) (fun _ h9 => h9) rfl dX6_readMember_122 ?_
    refine lv_iconst (v := 1) hx hb dX6_readMember_125 (by decide) ?_
    refine lv_iadd hx hb dX6_readMember_126 ?_
    refine lv_topi (fun x_3 ex_3 => ?_)
    have ex_3 : x_3 = v_at_120 + (1 : Int32) := ex_3
    refine va_put (D := (dC, dI)) (ci := 9) (v := .int x_3) (ty := .int) (C := RX6) (T := TX6) (N := 19) hx hb ht inX6 tyX6 tyX6_ok nmX6 hown hK hP_b120 hD_b120 hS_b120 2 rfl rfl 13 (by decide) (ht _ tw_450) (fun _ h9 => h9) rfl (by decide +kernel) rfl rfl (Nat.le_of_ble_eq_true rfl) dX6_readMember_127 (fun H_4 locs_4 hP_4 hD_4 hS_4 => ?_)
    have hP_4 : va_P (dC, dI) vwCl [(h1, .inr (10, oX7 (.ref h2) v_text_count v_text_over v_text_there)), (h2, .inl (k0, nv_text_items, .inl v_text_items)), (h0, .inr (9, oX6 v_fault_120 v_faultPlace_120 (.ref h3) (.ref h4) (.ref h5) (.ref h6) (.ref h7) (.ref h8) v_count (.ref h9) v_depth (.ref h1) (.ref h10) x_3 v_items (.ref h11) (.ref h12) (.ref h13) v_partCount))] H_4 := hP_4
    have hD_4 : va_D A [(h1, .inr (10, oX7 (.ref h2) v_text_count v_text_over v_text_there)), (h2, .inl (k0, nv_text_items, .inl v_text_items)), (h0, .inr (9, oX6 v_fault_120 v_faultPlace_120 (.ref h3) (.ref h4) (.ref h5) (.ref h6) (.ref h7) (.ref h8) v_count (.ref h9) v_depth (.ref h1) (.ref h10) x_3 v_items (.ref h11) (.ref h12) (.ref h13) v_partCount))] := hD_4
    refine lv_iload_n hx hb dX6_readMember_130 rfl (lv_at hl_b120 1 rfl) ?_
    rw [hQQ]
    exact W.iret (v := l1_120) hx hb hr (fun t9 ht9 hW9 => ⟨⟨l1_120, l1_120, rfl, rfl, ⟨v_fault_120, v_faultPlace_120, x_3, w_b120 x_3 ex_3, by rw [ht9]; exact hP_4, hD_4⟩⟩, hS_4.F ht9⟩) hS_4.2.2 dX6_readMember_131
  refine lv_icmp_ne (tgt := 80) hx hb dX6_readMember_8 (by decide) (fun c_5 => ?_) (fun c_5 => ?_)
  · refine lv_iload_n hx hb dX6_readMember_80 rfl (lv_at hl_2 0 rfl) ?_
    have hPc_6 := hP_1.sub (ws' := []) [] rfl
    have hDc_6 := hD_1.sub (ws' := []) [] (by decide) rfl
    have hKc_6 := hK.sub (tys' := []) [] rfl
    have hFc_6 := va_free (wc := []) hD_1 hS_1 hA [] rfl
    refine va_calli (va_runSN (As := [.int r_1]) (rest := []) ⟨hx, hb, hml, hown, ht⟩ (mt_X11_isTapeSign l dC dI r_1 _ (w_1.1 c_5) H_1.size) ⟨va_cnB 1 ht gw_X11_isTapeSign rfl rfl rfl (hE.2.2.2.2.2.2.2.2.2.2.2.2.2.2.1) (ht _ tw_236) (by decide +kernel) ⟨Nat.le_of_ble_eq_true rfl, Nat.le_of_ble_eq_true rfl⟩, ht _ tw_863, trivial⟩ ⟨fun a U g mk q => by obtain ⟨q0, q1, qP, qK, qD⟩ := q; exact ⟨q0, q1, qP, va_K.moved (u := U) (U := U.calling g mk a) (Vm.Alike.refl U.vm) qK, qD⟩, fun U hU hW => ⟨rfl, by rw [hU], by rw [hU]; exact hPc_6, va_K.moved hW.alike hKc_6, hDc_6.weaken (fun _ _ _ _ => trivial)⟩⟩ rfl rfl hl_2.1 rfl (lv_room (Nat.le_of_ble_eq_true rfl)) dX6_readMember_81 ⟨Nat.le_of_ble_eq_true rfl, Nat.le_of_ble_eq_true rfl⟩) hS_1 (fun q _ h => hFc_6 q h) hFc_6 (fun r_6 u_6 t_6 H_6 locs_6 ht_6 hvm_6 hw_6 hB_6 hz_6 hk_6 hS_6 => ?_)
    subst hw_6
    obtain ⟨w_6, hP1_6, hD1_6⟩ := hB_6
    rw [ht_6] at hP1_6
    obtain ⟨hP_6, hD_6⟩ := va_join (wr := [(h1, .inr (10, oX7 (.ref h2) v_text_count v_text_over v_text_there)), (h2, .inl (k0, nv_text_items, .inl v_text_items)), (h0, .inr (9, oX6 v_fault v_faultPlace (.ref h3) (.ref h4) (.ref h5) (.ref h6) (.ref h7) (.ref h8) v_count (.ref h9) v_depth (.ref h1) (.ref h10) v_at v_items (.ref h11) (.ref h12) (.ref h13) v_partCount))]) (w1 := []) hP_1 hD_1 [] [0, 1, 2] rfl rfl (by decide) (by decide) hk_6 hFc_6 hP1_6 hD1_6
    have hP_6 := hP_6.sub (ws' := [(h1, .inr (10, oX7 (.ref h2) v_text_count v_text_over v_text_there)), (h2, .inl (k0, nv_text_items, .inl v_text_items)), (h0, .inr (9, oX6 v_fault v_faultPlace (.ref h3) (.ref h4) (.ref h5) (.ref h6) (.ref h7) (.ref h8) v_count (.ref h9) v_depth (.ref h1) (.ref h10) v_at v_items (.ref h11) (.ref h12) (.ref h13) v_partCount))]) [0, 1, 2] rfl
    have hD_6 := hD_6.sub (ws' := [(h1, .inr (10, oX7 (.ref h2) v_text_count v_text_over v_text_there)), (h2, .inl (k0, nv_text_items, .inl v_text_items)), (h0, .inr (9, oX6 v_fault v_faultPlace (.ref h3) (.ref h4) (.ref h5) (.ref h6) (.ref h7) (.ref h8) v_count (.ref h9) v_depth (.ref h1) (.ref h10) v_at v_items (.ref h11) (.ref h12) (.ref h13) v_partCount))]) [0, 1, 2] (by decide) rfl
    clear hPc_6 hDc_6 hKc_6 hFc_6 hP1_6 hD1_6 hk_6 hz_6
    have k_111 : ∀ (l1_111 : Int32) (v_fault_111 : Int32) (v_faultPlace_111 : Int32) (v_at_111 : Int32), ∀ (H_b111 : Heap) (locs_b111 : List Loc) (ls_b111 : Array Slot), w_X6_readMember_111 Q l1_111 v_fault_111 v_faultPlace_111 v_at_111 → va_P (dC, dI) vwCl [(h1, .inr (10, oX7 (.ref h2) v_text_count v_text_over v_text_there)), (h2, .inl (k0, nv_text_items, .inl v_text_items)), (h0, .inr (9, oX6 v_fault_111 v_faultPlace_111 (.ref h3) (.ref h4) (.ref h5) (.ref h6) (.ref h7) (.ref h8) v_count (.ref h9) v_depth (.ref h1) (.ref h10) v_at_111 v_items (.ref h11) (.ref h12) (.ref h13) v_partCount))] H_b111 → va_D A [(h1, .inr (10, oX7 (.ref h2) v_text_count v_text_over v_text_there)), (h2, .inl (k0, nv_text_items, .inl v_text_items)), (h0, .inr (9, oX6 v_fault_111 v_faultPlace_111 (.ref h3) (.ref h4) (.ref h5) (.ref h6) (.ref h7) (.ref h8) v_count (.ref h9) v_depth (.ref h1) (.ref h10) v_at_111 v_items (.ref h11) (.ref h12) (.ref h13) v_partCount))] → va_S A s.heap H_b111 locs_b111 → lv_has ls_b111 2 [(0, .ref h0), (1, .int l1_111)] → W p l e ({ frames := 2, cells := 0, slots := 0, locals := 45 } : Room) s m ([.ref h0]).toArray below meth c H_b111 locs_b111 0 0 QQ (F0 m 111 ls_b111 []) := by
      intro l1_111 v_fault_111 v_faultPlace_111 v_at_111 H_b111 locs_b111 ls_b111 w_b111 hP_b111 hD_b111 hS_b111 hl_b111
      unfold w_X6_readMember_111 at w_b111
      refine lv_aload_n hx hb dX6_readMember_111 rfl (lv_at hl_b111 0 rfl) ?_
      refine lv_iconst (v := 1) hx hb dX6_readMember_112 (by decide) ?_
      refine lv_aload_n hx hb dX6_readMember_113 rfl (lv_at hl_b111 0 rfl) ?_
      refine va_get (D := (dC, dI)) (ci := 9) (v := .int v_at_111) (C := RX6) (T := TX6) (N := 19) hx hb ht inX6 hown hK hP_b111 2 rfl rfl 13 (by decide) (ht _ tw_450) (fun _ h9 => h9) rfl dX6_readMember_114 ?_
      have hPc_7 := hP_b111.sub (ws' := [(h0, .inr (9, oX6 v_fault_111 v_faultPlace_111 (.ref h3) (.ref h4) (.ref h5) (.ref h6) (.ref h7) (.ref h8) v_count (.ref h9) v_depth (.ref h1) (.ref h10) v_at_111 v_items (.ref h11) (.ref h12) (.ref h13) v_partCount))]) [2] rfl
      have hDc_7 := hD_b111.sub (ws' := [(h0, .inr (9, oX6 v_fault_111 v_faultPlace_111 (.ref h3) (.ref h4) (.ref h5) (.ref h6) (.ref h7) (.ref h8) v_count (.ref h9) v_depth (.ref h1) (.ref h10) v_at_111 v_items (.ref h11) (.ref h12) (.ref h13) v_partCount))]) [2] (by decide) rfl
      have hKc_7 := hK.sub (tys' := []) [] rfl
      have hFc_7 := va_free (wc := [(h0, .inr (9, oX6 v_fault_111 v_faultPlace_111 (.ref h3) (.ref h4) (.ref h5) (.ref h6) (.ref h7) (.ref h8) v_count (.ref h9) v_depth (.ref h1) (.ref h10) v_at_111 v_items (.ref h11) (.ref h12) (.ref h13) v_partCount))]) hD_b111 hS_b111 hA [2] rfl
      refine va_callv (va_runV (As := [.int 1, .int v_at_111]) (rest := []) ⟨hx, hb, hml, hown, ht⟩ (mt_X6_blame l dC dI h0 h3 h4 h5 h6 h7 h8 h9 h1 h10 h11 h12 h13 1 v_at_111 v_fault_111 v_faultPlace_111 v_count v_depth v_at_111 v_items v_partCount _ w_b111 H_b111.size) (cwV 2 ht (goodV tw_931 tw_933 tw_8 tw_239 gw_X6_blame) rfl rfl rfl (by decide +kernel) ⟨Nat.le_of_ble_eq_true rfl, Nat.le_of_ble_eq_true rfl⟩) ⟨fun a U g mk q => by obtain ⟨q0, q1, qP, qK, qD⟩ := q; exact ⟨q0, q1, qP, va_K.moved (u := U) (U := U.calling g mk a) (Vm.Alike.refl U.vm) qK, qD⟩, va_recv hKc_7 hPc_7 (ci := 9) (q0 := 0) rfl rfl, fun U hU hW => ⟨rfl, by rw [hU], by rw [hU]; exact hPc_7, va_K.moved hW.alike hKc_7, hDc_7.weaken (fun _ _ _ _ => trivial)⟩⟩ rfl rfl hl_b111.1 rfl (lv_room (Nat.le_of_ble_eq_true rfl)) dX6_readMember_117 ⟨Nat.le_of_ble_eq_true rfl, Nat.le_of_ble_eq_true rfl⟩) hS_b111 (fun q _ h => hFc_7 q h) hFc_7 (fun u_7 t_7 H_7 locs_7 ht_7 hvm_7 hw_7 hB_7 hz_7 hk_7 hS_7 => ?_)
      subst hw_7
      obtain ⟨r_7_0, r_7_1, w_7, hP1_7, hD1_7⟩ := hB_7
      rw [ht_7] at hP1_7
      obtain ⟨hP_7, hD_7⟩ := va_join (wr := [(h1, .inr (10, oX7 (.ref h2) v_text_count v_text_over v_text_there)), (h2, .inl (k0, nv_text_items, .inl v_text_items))]) (w1 := [(h0, .inr (9, oX6 r_7_0 r_7_1 (.ref h3) (.ref h4) (.ref h5) (.ref h6) (.ref h7) (.ref h8) v_count (.ref h9) v_depth (.ref h1) (.ref h10) v_at_111 v_items (.ref h11) (.ref h12) (.ref h13) v_partCount))]) hP_b111 hD_b111 [2] [0, 1] rfl rfl (by decide) (by decide) hk_7 hFc_7 hP1_7 hD1_7
      have hP_7 := hP_7.sub (ws' := [(h1, .inr (10, oX7 (.ref h2) v_text_count v_text_over v_text_there)), (h2, .inl (k0, nv_text_items, .inl v_text_items)), (h0, .inr (9, oX6 r_7_0 r_7_1 (.ref h3) (.ref h4) (.ref h5) (.ref h6) (.ref h7) (.ref h8) v_count (.ref h9) v_depth (.ref h1) (.ref h10) v_at_111 v_items (.ref h11) (.ref h12) (.ref h13) v_partCount))]) [0, 1, 2] rfl
      have hD_7 := hD_7.sub (ws' := [(h1, .inr (10, oX7 (.ref h2) v_text_count v_text_over v_text_there)), (h2, .inl (k0, nv_text_items, .inl v_text_items)), (h0, .inr (9, oX6 r_7_0 r_7_1 (.ref h3) (.ref h4) (.ref h5) (.ref h6) (.ref h7) (.ref h8) v_count (.ref h9) v_depth (.ref h1) (.ref h10) v_at_111 v_items (.ref h11) (.ref h12) (.ref h13) v_partCount))]) [0, 1, 2] (by decide) rfl
      clear hPc_7 hDc_7 hKc_7 hFc_7 hP1_7 hD1_7 hk_7 hz_7
      exact k_120 l1_111 r_7_0 r_7_1 v_at_111 _ _ _ w_7 hP_7 hD_7 hS_7 (lv_sub hl_b111 [0, 1] rfl)
    refine lv_if_eq (tgt := 111) hx hb dX6_readMember_84 (by decide) (fun c_8 => ?_) (fun c_8 => ?_)
    · exact k_111 r_1 v_fault v_faultPlace v_at _ _ _ (w_6.1 c_8) hP_6 hD_6 hS_6 (lv_sub hl_2 [1, 0] rfl)
    · refine lv_iload_n hx hb dX6_readMember_87 rfl (lv_at hl_2 0 rfl) ?_
      refine lv_bipush (v := 91) hx hb dX6_readMember_88 (by decide) ?_
      refine lv_icmp_eq (tgt := 111) hx hb dX6_readMember_90 (by decide) (fun c_9 => ?_) (fun c_9 => ?_)
      · exact k_111 r_1 v_fault v_faultPlace v_at _ _ _ ((w_6.2 c_8).1 c_9) hP_6 hD_6 hS_6 (lv_sub hl_2 [1, 0] rfl)
      · refine lv_iload_n hx hb dX6_readMember_93 rfl (lv_at hl_2 0 rfl) ?_
        refine lv_bipush (v := 93) hx hb dX6_readMember_94 (by decide) ?_
        refine lv_icmp_eq (tgt := 111) hx hb dX6_readMember_96 (by decide) (fun c_10 => ?_) (fun c_10 => ?_)
        · exact k_111 r_1 v_fault v_faultPlace v_at _ _ _ (((w_6.2 c_8).2 c_9).1 c_10) hP_6 hD_6 hS_6 (lv_sub hl_2 [1, 0] rfl)
        · refine lv_iload_n hx hb dX6_readMember_99 rfl (lv_at hl_2 0 rfl) ?_
          refine lv_bipush (v := 94) hx hb dX6_readMember_100 (by decide) ?_
          refine lv_icmp_eq (tgt := 111) hx hb dX6_readMember_102 (by decide) (fun c_11 => ?_) (fun c_11 => ?_)
          · exact k_111 r_1 v_fault v_faultPlace v_at _ _ _ ((((w_6.2 c_8).2 c_9).2 c_10).1 c_11) hP_6 hD_6 hS_6 (lv_sub hl_2 [1, 0] rfl)
          · refine lv_iload_n hx hb dX6_readMember_105 rfl (lv_at hl_2 0 rfl) ?_
            refine lv_bipush (v := 45) hx hb dX6_readMember_106 (by decide) ?_
            refine lv_icmp_ne (tgt := 120) hx hb dX6_readMember_108 (by decide) (fun c_12 => ?_) (fun c_12 => ?_)
            · have w_13 := ((((w_6.2 c_8).2 c_9).2 c_10).2 c_11).1 c_12
              exact k_120 r_1 v_fault v_faultPlace v_at _ _ _ w_13 hP_6 hD_6 hS_6 (lv_sub hl_2 [1, 0] rfl)
            · have w_14 := ((((w_6.2 c_8).2 c_9).2 c_10).2 c_11).2 c_12
              exact k_111 r_1 v_fault v_faultPlace v_at _ _ _ w_14 hP_6 hD_6 hS_6 (lv_sub hl_2 [1, 0] rfl)
  · refine lv_aload_n hx hb dX6_readMember_11 rfl (lv_at hl_2 1 rfl) ?_
    refine lv_dup hx hb dX6_readMember_12 rfl ?_
    refine va_get (D := (dC, dI)) (ci := 9) (v := .int v_at) (C := RX6) (T := TX6) (N := 19) hx hb ht inX6 hown hK hP_1 2 rfl rfl 13 (by decide) (ht _ tw_450) (fun _ h9 => h9) rfl dX6_readMember_13 ?_
    refine lv_iconst (v := 1) hx hb dX6_readMember_16 (by decide) ?_
    refine lv_iadd hx hb dX6_readMember_17 ?_
    refine lv_topi (fun x_15 ex_15 => ?_)
    have ex_15 : x_15 = v_at + (1 : Int32) := ex_15
    refine va_put (D := (dC, dI)) (ci := 9) (v := .int x_15) (ty := .int) (C := RX6) (T := TX6) (N := 19) hx hb ht inX6 tyX6 tyX6_ok nmX6 hown hK hP_1 hD_1 hS_1 2 rfl rfl 13 (by decide) (ht _ tw_450) (fun _ h9 => h9) rfl (by decide +kernel) rfl rfl (Nat.le_of_ble_eq_true rfl) dX6_readMember_18 (fun H_16 locs_16 hP_16 hD_16 hS_16 => ?_)
    have hP_16 : va_P (dC, dI) vwCl [(h1, .inr (10, oX7 (.ref h2) v_text_count v_text_over v_text_there)), (h2, .inl (k0, nv_text_items, .inl v_text_items)), (h0, .inr (9, oX6 v_fault v_faultPlace (.ref h3) (.ref h4) (.ref h5) (.ref h6) (.ref h7) (.ref h8) v_count (.ref h9) v_depth (.ref h1) (.ref h10) x_15 v_items (.ref h11) (.ref h12) (.ref h13) v_partCount))] H_16 := hP_16
    have hD_16 : va_D A [(h1, .inr (10, oX7 (.ref h2) v_text_count v_text_over v_text_there)), (h2, .inl (k0, nv_text_items, .inl v_text_items)), (h0, .inr (9, oX6 v_fault v_faultPlace (.ref h3) (.ref h4) (.ref h5) (.ref h6) (.ref h7) (.ref h8) v_count (.ref h9) v_depth (.ref h1) (.ref h10) x_15 v_items (.ref h11) (.ref h12) (.ref h13) v_partCount))] := hD_16
    refine lv_aload_n hx hb dX6_readMember_21 rfl (lv_at hl_2 1 rfl) ?_
    have hPc_17 := hP_16.sub (ws' := [(h1, .inr (10, oX7 (.ref h2) v_text_count v_text_over v_text_there)), (h2, .inl (k0, nv_text_items, .inl v_text_items)), (h0, .inr (9, oX6 v_fault v_faultPlace (.ref h3) (.ref h4) (.ref h5) (.ref h6) (.ref h7) (.ref h8) v_count (.ref h9) v_depth (.ref h1) (.ref h10) x_15 v_items (.ref h11) (.ref h12) (.ref h13) v_partCount))]) [0, 1, 2] rfl
    have hDc_17 := hD_16.sub (ws' := [(h1, .inr (10, oX7 (.ref h2) v_text_count v_text_over v_text_there)), (h2, .inl (k0, nv_text_items, .inl v_text_items)), (h0, .inr (9, oX6 v_fault v_faultPlace (.ref h3) (.ref h4) (.ref h5) (.ref h6) (.ref h7) (.ref h8) v_count (.ref h9) v_depth (.ref h1) (.ref h10) x_15 v_items (.ref h11) (.ref h12) (.ref h13) v_partCount))]) [0, 1, 2] (by decide) rfl
    have hKc_17 := hK.sub (tys' := [(k0, .int)]) [0] rfl
    have hFc_17 := va_free (wc := [(h1, .inr (10, oX7 (.ref h2) v_text_count v_text_over v_text_there)), (h2, .inl (k0, nv_text_items, .inl v_text_items)), (h0, .inr (9, oX6 v_fault v_faultPlace (.ref h3) (.ref h4) (.ref h5) (.ref h6) (.ref h7) (.ref h8) v_count (.ref h9) v_depth (.ref h1) (.ref h10) x_15 v_items (.ref h11) (.ref h12) (.ref h13) v_partCount))]) hD_16 hS_16 hA [0, 1, 2] rfl
    refine va_calli (va_runV (As := []) (rest := []) ⟨hx, hb, hml, hown, ht⟩ (mt_X6_here l dC dI h0 h1 h2 h3 h4 h5 h6 h7 h8 h9 h10 h11 h12 h13 k0 v_text_count v_text_over v_text_there v_text_items nv_text_items v_fault v_faultPlace v_count v_depth x_15 v_items v_partCount _ (w_1.2 c_5 x_15 ex_15) H_16.size) (cwV 0 ht (goodV tw_903 tw_905 tw_2 tw_239 gw_X6_here) rfl rfl rfl (by decide +kernel) ⟨Nat.le_of_ble_eq_true rfl, Nat.le_of_ble_eq_true rfl⟩) ⟨fun a U g mk q => by obtain ⟨q0, q1, qP, qK, qD⟩ := q; exact ⟨q0, q1, qP, va_K.moved (u := U) (U := U.calling g mk a) (Vm.Alike.refl U.vm) qK, qD⟩, va_recv hKc_17 hPc_17 (ci := 9) (q0 := 2) rfl rfl, fun U hU hW => ⟨rfl, by rw [hU], by rw [hU]; exact hPc_17, va_K.moved hW.alike hKc_17, hDc_17.weaken (fun _ _ _ _ => trivial)⟩⟩ rfl rfl hl_2.1 rfl (lv_room (Nat.le_of_ble_eq_true rfl)) dX6_readMember_22 ⟨Nat.le_of_ble_eq_true rfl, Nat.le_of_ble_eq_true rfl⟩) hS_16 (fun q _ h => hFc_17 q h) hFc_17 (fun r_17 u_17 t_17 H_17 locs_17 ht_17 hvm_17 hw_17 hB_17 hz_17 hk_17 hS_17 => ?_)
    subst hw_17
    obtain ⟨w_17, hP1_17, hD1_17⟩ := hB_17
    rw [ht_17] at hP1_17
    obtain ⟨hP_17, hD_17⟩ := va_join (wr := []) (w1 := [(h1, .inr (10, oX7 (.ref h2) v_text_count v_text_over v_text_there)), (h2, .inl (k0, nv_text_items, .inl v_text_items)), (h0, .inr (9, oX6 v_fault v_faultPlace (.ref h3) (.ref h4) (.ref h5) (.ref h6) (.ref h7) (.ref h8) v_count (.ref h9) v_depth (.ref h1) (.ref h10) x_15 v_items (.ref h11) (.ref h12) (.ref h13) v_partCount))]) hP_16 hD_16 [0, 1, 2] [] rfl rfl (by decide) (by decide) hk_17 hFc_17 hP1_17 hD1_17
    have hP_17 := hP_17.sub (ws' := [(h1, .inr (10, oX7 (.ref h2) v_text_count v_text_over v_text_there)), (h2, .inl (k0, nv_text_items, .inl v_text_items)), (h0, .inr (9, oX6 v_fault v_faultPlace (.ref h3) (.ref h4) (.ref h5) (.ref h6) (.ref h7) (.ref h8) v_count (.ref h9) v_depth (.ref h1) (.ref h10) x_15 v_items (.ref h11) (.ref h12) (.ref h13) v_partCount))]) [0, 1, 2] rfl
    have hD_17 := hD_17.sub (ws' := [(h1, .inr (10, oX7 (.ref h2) v_text_count v_text_over v_text_there)), (h2, .inl (k0, nv_text_items, .inl v_text_items)), (h0, .inr (9, oX6 v_fault v_faultPlace (.ref h3) (.ref h4) (.ref h5) (.ref h6) (.ref h7) (.ref h8) v_count (.ref h9) v_depth (.ref h1) (.ref h10) x_15 v_items (.ref h11) (.ref h12) (.ref h13) v_partCount))]) [0, 1, 2] (by decide) rfl
    clear hPc_17 hDc_17 hKc_17 hFc_17 hP1_17 hD1_17 hk_17 hz_17
    refine lv_istore_n (lv' := [(1, .int r_17), (0, .ref h0)]) hx hb dX6_readMember_25 rfl hl_2 (by decide) rfl (fun ls_18 hl_18 => ?_)
    clear hl_2
    refine lv_iload_n hx hb dX6_readMember_26 rfl (lv_at hl_18 0 rfl) ?_
    refine lv_bipush (v := 120) hx hb dX6_readMember_27 (by decide) ?_
    refine lv_icmp_ne (tgt := 47) hx hb dX6_readMember_29 (by decide) (fun c_19 => ?_) (fun c_19 => ?_)
    · refine lv_iload_n hx hb dX6_readMember_47 rfl (lv_at hl_18 0 rfl) ?_
      have hPc_20 := hP_17.sub (ws' := []) [] rfl
      have hDc_20 := hD_17.sub (ws' := []) [] (by decide) rfl
      have hKc_20 := hK.sub (tys' := []) [] rfl
      have hFc_20 := va_free (wc := []) hD_17 hS_17 hA [] rfl
      refine va_calli (va_runSN (As := [.int r_17]) (rest := []) ⟨hx, hb, hml, hown, ht⟩ (mt_X11_isTapeSign l dC dI r_17 _ (w_17.1 c_19) H_17.size) ⟨va_cnB 1 ht gw_X11_isTapeSign rfl rfl rfl (hE.2.2.2.2.2.2.2.2.2.2.2.2.2.2.1) (ht _ tw_236) (by decide +kernel) ⟨Nat.le_of_ble_eq_true rfl, Nat.le_of_ble_eq_true rfl⟩, ht _ tw_863, trivial⟩ ⟨fun a U g mk q => by obtain ⟨q0, q1, qP, qK, qD⟩ := q; exact ⟨q0, q1, qP, va_K.moved (u := U) (U := U.calling g mk a) (Vm.Alike.refl U.vm) qK, qD⟩, fun U hU hW => ⟨rfl, by rw [hU], by rw [hU]; exact hPc_20, va_K.moved hW.alike hKc_20, hDc_20.weaken (fun _ _ _ _ => trivial)⟩⟩ rfl rfl hl_18.1 rfl (lv_room (Nat.le_of_ble_eq_true rfl)) dX6_readMember_48 ⟨Nat.le_of_ble_eq_true rfl, Nat.le_of_ble_eq_true rfl⟩) hS_17 (fun q _ h => hFc_20 q h) hFc_20 (fun r_20 u_20 t_20 H_20 locs_20 ht_20 hvm_20 hw_20 hB_20 hz_20 hk_20 hS_20 => ?_)
      subst hw_20
      obtain ⟨w_20, hP1_20, hD1_20⟩ := hB_20
      rw [ht_20] at hP1_20
      obtain ⟨hP_20, hD_20⟩ := va_join (wr := [(h1, .inr (10, oX7 (.ref h2) v_text_count v_text_over v_text_there)), (h2, .inl (k0, nv_text_items, .inl v_text_items)), (h0, .inr (9, oX6 v_fault v_faultPlace (.ref h3) (.ref h4) (.ref h5) (.ref h6) (.ref h7) (.ref h8) v_count (.ref h9) v_depth (.ref h1) (.ref h10) x_15 v_items (.ref h11) (.ref h12) (.ref h13) v_partCount))]) (w1 := []) hP_17 hD_17 [] [0, 1, 2] rfl rfl (by decide) (by decide) hk_20 hFc_20 hP1_20 hD1_20
      have hP_20 := hP_20.sub (ws' := [(h1, .inr (10, oX7 (.ref h2) v_text_count v_text_over v_text_there)), (h2, .inl (k0, nv_text_items, .inl v_text_items)), (h0, .inr (9, oX6 v_fault v_faultPlace (.ref h3) (.ref h4) (.ref h5) (.ref h6) (.ref h7) (.ref h8) v_count (.ref h9) v_depth (.ref h1) (.ref h10) x_15 v_items (.ref h11) (.ref h12) (.ref h13) v_partCount))]) [0, 1, 2] rfl
      have hD_20 := hD_20.sub (ws' := [(h1, .inr (10, oX7 (.ref h2) v_text_count v_text_over v_text_there)), (h2, .inl (k0, nv_text_items, .inl v_text_items)), (h0, .inr (9, oX6 v_fault v_faultPlace (.ref h3) (.ref h4) (.ref h5) (.ref h6) (.ref h7) (.ref h8) v_count (.ref h9) v_depth (.ref h1) (.ref h10) x_15 v_items (.ref h11) (.ref h12) (.ref h13) v_partCount))]) [0, 1, 2] (by decide) rfl
      clear hPc_20 hDc_20 hKc_20 hFc_20 hP1_20 hD1_20 hk_20 hz_20
      have k_68 : ∀ (l1_68 : Int32) (v_fault_68 : Int32) (v_faultPlace_68 : Int32) (v_at_68 : Int32), ∀ (H_b68 : Heap) (locs_b68 : List Loc) (ls_b68 : Array Slot), w_X6_readMember_68 Q l1_68 v_fault_68 v_faultPlace_68 v_at_68 → va_P (dC, dI) vwCl [(h1, .inr (10, oX7 (.ref h2) v_text_count v_text_over v_text_there)), (h2, .inl (k0, nv_text_items, .inl v_text_items)), (h0, .inr (9, oX6 v_fault_68 v_faultPlace_68 (.ref h3) (.ref h4) (.ref h5) (.ref h6) (.ref h7) (.ref h8) v_count (.ref h9) v_depth (.ref h1) (.ref h10) v_at_68 v_items (.ref h11) (.ref h12) (.ref h13) v_partCount))] H_b68 → va_D A [(h1, .inr (10, oX7 (.ref h2) v_text_count v_text_over v_text_there)), (h2, .inl (k0, nv_text_items, .inl v_text_items)), (h0, .inr (9, oX6 v_fault_68 v_faultPlace_68 (.ref h3) (.ref h4) (.ref h5) (.ref h6) (.ref h7) (.ref h8) v_count (.ref h9) v_depth (.ref h1) (.ref h10) v_at_68 v_items (.ref h11) (.ref h12) (.ref h13) v_partCount))] → va_S A s.heap H_b68 locs_b68 → lv_has ls_b68 2 [(0, .ref h0), (1, .int l1_68)] → W p l e ({ frames := 2, cells := 0, slots := 0, locals := 45 } : Room) s m ([.ref h0]).toArray below meth c H_b68 locs_b68 0 0 QQ (F0 m 68 ls_b68 []) := by
        intro l1_68 v_fault_68 v_faultPlace_68 v_at_68 H_b68 locs_b68 ls_b68 w_b68 hP_b68 hD_b68 hS_b68 hl_b68
        unfold w_X6_readMember_68 at w_b68
        refine lv_aload_n hx hb dX6_readMember_68 rfl (lv_at hl_b68 0 rfl) ?_
        refine lv_iconst (v := 1) hx hb dX6_readMember_69 (by decide) ?_
        refine lv_aload_n hx hb dX6_readMember_70 rfl (lv_at hl_b68 0 rfl) ?_
        refine va_get (D := (dC, dI)) (ci := 9) (v := .int v_at_68) (C := RX6) (T := TX6) (N := 19) hx hb ht inX6 hown hK hP_b68 2 rfl rfl 13 (by decide) (ht _ tw_450) (fun _ h9 => h9) rfl dX6_readMember_71 ?_
        have hPc_21 := hP_b68.sub (ws' := [(h0, .inr (9, oX6 v_fault_68 v_faultPlace_68 (.ref h3) (.ref h4) (.ref h5) (.ref h6) (.ref h7) (.ref h8) v_count (.ref h9) v_depth (.ref h1) (.ref h10) v_at_68 v_items (.ref h11) (.ref h12) (.ref h13) v_partCount))]) [2] rfl
        have hDc_21 := hD_b68.sub (ws' := [(h0, .inr (9, oX6 v_fault_68 v_faultPlace_68 (.ref h3) (.ref h4) (.ref h5) (.ref h6) (.ref h7) (.ref h8) v_count (.ref h9) v_depth (.ref h1) (.ref h10) v_at_68 v_items (.ref h11) (.ref h12) (.ref h13) v_partCount))]) [2] (by decide) rfl
        have hKc_21 := hK.sub (tys' := []) [] rfl
        have hFc_21 := va_free (wc := [(h0, .inr (9, oX6 v_fault_68 v_faultPlace_68 (.ref h3) (.ref h4) (.ref h5) (.ref h6) (.ref h7) (.ref h8) v_count (.ref h9) v_depth (.ref h1) (.ref h10) v_at_68 v_items (.ref h11) (.ref h12) (.ref h13) v_partCount))]) hD_b68 hS_b68 hA [2] rfl
        refine va_callv (va_runV (As := [.int 1, .int v_at_68]) (rest := []) ⟨hx, hb, hml, hown, ht⟩ (mt_X6_blame l dC dI h0 h3 h4 h5 h6 h7 h8 h9 h1 h10 h11 h12 h13 1 v_at_68 v_fault_68 v_faultPlace_68 v_count v_depth v_at_68 v_items v_partCount _ w_b68 H_b68.size) (cwV 2 ht (goodV tw_931 tw_933 tw_8 tw_239 gw_X6_blame) rfl rfl rfl (by decide +kernel) ⟨Nat.le_of_ble_eq_true rfl, Nat.le_of_ble_eq_true rfl⟩) ⟨fun a U g mk q => by obtain ⟨q0, q1, qP, qK, qD⟩ := q; exact ⟨q0, q1, qP, va_K.moved (u := U) (U := U.calling g mk a) (Vm.Alike.refl U.vm) qK, qD⟩, va_recv hKc_21 hPc_21 (ci := 9) (q0 := 0) rfl rfl, fun U hU hW => ⟨rfl, by rw [hU], by rw [hU]; exact hPc_21, va_K.moved hW.alike hKc_21, hDc_21.weaken (fun _ _ _ _ => trivial)⟩⟩ rfl rfl hl_b68.1 rfl (lv_room (Nat.le_of_ble_eq_true rfl)) dX6_readMember_74 ⟨Nat.le_of_ble_eq_true rfl, Nat.le_of_ble_eq_true rfl⟩) hS_b68 (fun q _ h => hFc_21 q h) hFc_21 (fun u_21 t_21 H_21 locs_21 ht_21 hvm_21 hw_21 hB_21 hz_21 hk_21 hS_21 => ?_)
        subst hw_21
        obtain ⟨r_21_0, r_21_1, w_21, hP1_21, hD1_21⟩ := hB_21
        rw [ht_21] at hP1_21
        obtain ⟨hP_21, hD_21⟩ := va_join (wr := [(h1, .inr (10, oX7 (.ref h2) v_text_count v_text_over v_text_there)), (h2, .inl (k0, nv_text_items, .inl v_text_items))]) (w1 := [(h0, .inr (9, oX6 r_21_0 r_21_1 (.ref h3) (.ref h4) (.ref h5) (.ref h6) (.ref h7) (.ref h8) v_count (.ref h9) v_depth (.ref h1) (.ref h10) v_at_68 v_items (.ref h11) (.ref h12) (.ref h13) v_partCount))]) hP_b68 hD_b68 [2] [0, 1] rfl rfl (by decide) (by decide) hk_21 hFc_21 hP1_21 hD1_21
        have hP_21 := hP_21.sub (ws' := [(h1, .inr (10, oX7 (.ref h2) v_text_count v_text_over v_text_there)), (h2, .inl (k0, nv_text_items, .inl v_text_items)), (h0, .inr (9, oX6 r_21_0 r_21_1 (.ref h3) (.ref h4) (.ref h5) (.ref h6) (.ref h7) (.ref h8) v_count (.ref h9) v_depth (.ref h1) (.ref h10) v_at_68 v_items (.ref h11) (.ref h12) (.ref h13) v_partCount))]) [0, 1, 2] rfl
        have hD_21 := hD_21.sub (ws' := [(h1, .inr (10, oX7 (.ref h2) v_text_count v_text_over v_text_there)), (h2, .inl (k0, nv_text_items, .inl v_text_items)), (h0, .inr (9, oX6 r_21_0 r_21_1 (.ref h3) (.ref h4) (.ref h5) (.ref h6) (.ref h7) (.ref h8) v_count (.ref h9) v_depth (.ref h1) (.ref h10) v_at_68 v_items (.ref h11) (.ref h12) (.ref h13) v_partCount))]) [0, 1, 2] (by decide) rfl
        clear hPc_21 hDc_21 hKc_21 hFc_21 hP1_21 hD1_21 hk_21 hz_21
        refine lv_goto (tgt := 120) hx hb dX6_readMember_77 (by decide) ?_
        exact k_120 l1_68 r_21_0 r_21_1 v_at_68 _ _ _ w_21 hP_21 hD_21 hS_21 (lv_sub hl_b68 [0, 1] rfl)
      refine lv_if_eq (tgt := 68) hx hb dX6_readMember_51 (by decide) (fun c_22 => ?_) (fun c_22 => ?_)
      · exact k_68 r_17 v_fault v_faultPlace x_15 _ _ _ (w_20.1 c_22) hP_20 hD_20 hS_20 (lv_sub hl_18 [1, 0] rfl)
      · refine lv_iload_n hx hb dX6_readMember_54 rfl (lv_at hl_18 0 rfl) ?_
        have hPc_23 := hP_20.sub (ws' := []) [] rfl
        have hDc_23 := hD_20.sub (ws' := []) [] (by decide) rfl
        have hKc_23 := hK.sub (tys' := []) [] rfl
        have hFc_23 := va_free (wc := []) hD_20 hS_20 hA [] rfl
        refine va_calli (va_runSN (As := [.int r_17]) (rest := []) ⟨hx, hb, hml, hown, ht⟩ (mt_X11_isLetter l dC dI r_17 _ (w_20.2 c_22) H_20.size) ⟨va_cnB 1 ht gw_X11_isLetter rfl rfl rfl (hE.2.2.2.2.2.2.2.2.2.2.2.2.2.2.2.1) (ht _ tw_236) (by decide +kernel) ⟨Nat.le_of_ble_eq_true rfl, Nat.le_of_ble_eq_true rfl⟩, ht _ tw_994, trivial⟩ ⟨fun a U g mk q => by obtain ⟨q0, q1, qP, qK, qD⟩ := q; exact ⟨q0, q1, qP, va_K.moved (u := U) (U := U.calling g mk a) (Vm.Alike.refl U.vm) qK, qD⟩, fun U hU hW => ⟨rfl, by rw [hU], by rw [hU]; exact hPc_23, va_K.moved hW.alike hKc_23, hDc_23.weaken (fun _ _ _ _ => trivial)⟩⟩ rfl rfl hl_18.1 rfl (lv_room (Nat.le_of_ble_eq_true rfl)) dX6_readMember_55 ⟨Nat.le_of_ble_eq_true rfl, Nat.le_of_ble_eq_true rfl⟩) hS_20 (fun q _ h => hFc_23 q h) hFc_23 (fun r_23 u_23 t_23 H_23 locs_23 ht_23 hvm_23 hw_23 hB_23 hz_23 hk_23 hS_23 => ?_)
        subst hw_23
        obtain ⟨w_23, hP1_23, hD1_23⟩ := hB_23
        rw [ht_23] at hP1_23
        obtain ⟨hP_23, hD_23⟩ := va_join (wr := [(h1, .inr (10, oX7 (.ref h2) v_text_count v_text_over v_text_there)), (h2, .inl (k0, nv_text_items, .inl v_text_items)), (h0, .inr (9, oX6 v_fault v_faultPlace (.ref h3) (.ref h4) (.ref h5) (.ref h6) (.ref h7) (.ref h8) v_count (.ref h9) v_depth (.ref h1) (.ref h10) x_15 v_items (.ref h11) (.ref h12) (.ref h13) v_partCount))]) (w1 := []) hP_20 hD_20 [] [0, 1, 2] rfl rfl (by decide) (by decide) hk_23 hFc_23 hP1_23 hD1_23
        have hP_23 := hP_23.sub (ws' := [(h1, .inr (10, oX7 (.ref h2) v_text_count v_text_over v_text_there)), (h2, .inl (k0, nv_text_items, .inl v_text_items)), (h0, .inr (9, oX6 v_fault v_faultPlace (.ref h3) (.ref h4) (.ref h5) (.ref h6) (.ref h7) (.ref h8) v_count (.ref h9) v_depth (.ref h1) (.ref h10) x_15 v_items (.ref h11) (.ref h12) (.ref h13) v_partCount))]) [0, 1, 2] rfl
        have hD_23 := hD_23.sub (ws' := [(h1, .inr (10, oX7 (.ref h2) v_text_count v_text_over v_text_there)), (h2, .inl (k0, nv_text_items, .inl v_text_items)), (h0, .inr (9, oX6 v_fault v_faultPlace (.ref h3) (.ref h4) (.ref h5) (.ref h6) (.ref h7) (.ref h8) v_count (.ref h9) v_depth (.ref h1) (.ref h10) x_15 v_items (.ref h11) (.ref h12) (.ref h13) v_partCount))]) [0, 1, 2] (by decide) rfl
        clear hPc_23 hDc_23 hKc_23 hFc_23 hP1_23 hD1_23 hk_23 hz_23
        refine lv_if_ne (tgt := 68) hx hb dX6_readMember_58 (by decide) (fun c_24 => ?_) (fun c_24 => ?_)
        · exact k_68 r_17 v_fault v_faultPlace x_15 _ _ _ (w_23.1 c_24) hP_23 hD_23 hS_23 (lv_sub hl_18 [1, 0] rfl)
        · refine lv_iload_n hx hb dX6_readMember_61 rfl (lv_at hl_18 0 rfl) ?_
          have hPc_25 := hP_23.sub (ws' := []) [] rfl
          have hDc_25 := hD_23.sub (ws' := []) [] (by decide) rfl
          have hKc_25 := hK.sub (tys' := []) [] rfl
          have hFc_25 := va_free (wc := []) hD_23 hS_23 hA [] rfl
          refine va_calli (va_runSN (As := [.int r_17]) (rest := []) ⟨hx, hb, hml, hown, ht⟩ (mt_X11_isDigit l dC dI r_17 _ (w_23.2 c_24) H_23.size) ⟨va_cnB 1 ht gw_X11_isDigit rfl rfl rfl (hE.2.2.2.2.2.2.2.2.2.2.2.2.2.1) (ht _ tw_236) (by decide +kernel) ⟨Nat.le_of_ble_eq_true rfl, Nat.le_of_ble_eq_true rfl⟩, ht _ tw_990, trivial⟩ ⟨fun a U g mk q => by obtain ⟨q0, q1, qP, qK, qD⟩ := q; exact ⟨q0, q1, qP, va_K.moved (u := U) (U := U.calling g mk a) (Vm.Alike.refl U.vm) qK, qD⟩, fun U hU hW => ⟨rfl, by rw [hU], by rw [hU]; exact hPc_25, va_K.moved hW.alike hKc_25, hDc_25.weaken (fun _ _ _ _ => trivial)⟩⟩ rfl rfl hl_18.1 rfl (lv_room (Nat.le_of_ble_eq_true rfl)) dX6_readMember_62 ⟨Nat.le_of_ble_eq_true rfl, Nat.le_of_ble_eq_true rfl⟩) hS_23 (fun q _ h => hFc_25 q h) hFc_25 (fun r_25 u_25 t_25 H_25 locs_25 ht_25 hvm_25 hw_25 hB_25 hz_25 hk_25 hS_25 => ?_)
          subst hw_25
          obtain ⟨w_25, hP1_25, hD1_25⟩ := hB_25
          rw [ht_25] at hP1_25
          obtain ⟨hP_25, hD_25⟩ := va_join (wr := [(h1, .inr (10, oX7 (.ref h2) v_text_count v_text_over v_text_there)), (h2, .inl (k0, nv_text_items, .inl v_text_items)), (h0, .inr (9, oX6 v_fault v_faultPlace (.ref h3) (.ref h4) (.ref h5) (.ref h6) (.ref h7) (.ref h8) v_count (.ref h9) v_depth (.ref h1) (.ref h10) x_15 v_items (.ref h11) (.ref h12) (.ref h13) v_partCount))]) (w1 := []) hP_23 hD_23 [] [0, 1, 2] rfl rfl (by decide) (by decide) hk_25 hFc_25 hP1_25 hD1_25
          have hP_25 := hP_25.sub (ws' := [(h1, .inr (10, oX7 (.ref h2) v_text_count v_text_over v_text_there)), (h2, .inl (k0, nv_text_items, .inl v_text_items)), (h0, .inr (9, oX6 v_fault v_faultPlace (.ref h3) (.ref h4) (.ref h5) (.ref h6) (.ref h7) (.ref h8) v_count (.ref h9) v_depth (.ref h1) (.ref h10) x_15 v_items (.ref h11) (.ref h12) (.ref h13) v_partCount))]) [0, 1, 2] rfl
          have hD_25 := hD_25.sub (ws' := [(h1, .inr (10, oX7 (.ref h2) v_text_count v_text_over v_text_there)), (h2, .inl (k0, nv_text_items, .inl v_text_items)), (h0, .inr (9, oX6 v_fault v_faultPlace (.ref h3) (.ref h4) (.ref h5) (.ref h6) (.ref h7) (.ref h8) v_count (.ref h9) v_depth (.ref h1) (.ref h10) x_15 v_items (.ref h11) (.ref h12) (.ref h13) v_partCount))]) [0, 1, 2] (by decide) rfl
          clear hPc_25 hDc_25 hKc_25 hFc_25 hP1_25 hD1_25 hk_25 hz_25
          refine lv_if_eq (tgt := 120) hx hb dX6_readMember_65 (by decide) (fun c_26 => ?_) (fun c_26 => ?_)
          · exact k_120 r_17 v_fault v_faultPlace x_15 _ _ _ (w_25.1 c_26) hP_25 hD_25 hS_25 (lv_sub hl_18 [1, 0] rfl)
          · exact k_68 r_17 v_fault v_faultPlace x_15 _ _ _ (w_25.2 c_26) hP_25 hD_25 hS_25 (lv_sub hl_18 [1, 0] rfl)
    · refine lv_aload_n hx hb dX6_readMember_32 rfl (lv_at hl_18 1 rfl) ?_
      refine lv_dup hx hb dX6_readMember_33 rfl ?_
      refine va_get (D := (dC, dI)) (ci := 9) (v := .int x_15) (C := RX6) (T := TX6) (N := 19) hx hb ht inX6 hown hK hP_17 2 rfl rfl 13 (by decide) (ht _ tw_450) (fun _ h9 => h9) rfl dX6_readMember_34 ?_
      refine lv_iconst (v := 1) hx hb dX6_readMember_37 (by decide) ?_
      refine lv_iadd hx hb dX6_readMember_38 ?_
      refine lv_topi (fun x_27 ex_27 => ?_)
      have ex_27 : x_27 = x_15 + (1 : Int32) := ex_27
      refine va_put (D := (dC, dI)) (ci := 9) (v := .int x_27) (ty := .int) (C := RX6) (T := TX6) (N := 19) hx hb ht inX6 tyX6 tyX6_ok nmX6 hown hK hP_17 hD_17 hS_17 2 rfl rfl 13 (by decide) (ht _ tw_450) (fun _ h9 => h9) rfl (by decide +kernel) rfl rfl (Nat.le_of_ble_eq_true rfl) dX6_readMember_39 (fun H_28 locs_28 hP_28 hD_28 hS_28 => ?_)
      have hP_28 : va_P (dC, dI) vwCl [(h1, .inr (10, oX7 (.ref h2) v_text_count v_text_over v_text_there)), (h2, .inl (k0, nv_text_items, .inl v_text_items)), (h0, .inr (9, oX6 v_fault v_faultPlace (.ref h3) (.ref h4) (.ref h5) (.ref h6) (.ref h7) (.ref h8) v_count (.ref h9) v_depth (.ref h1) (.ref h10) x_27 v_items (.ref h11) (.ref h12) (.ref h13) v_partCount))] H_28 := hP_28
      have hD_28 : va_D A [(h1, .inr (10, oX7 (.ref h2) v_text_count v_text_over v_text_there)), (h2, .inl (k0, nv_text_items, .inl v_text_items)), (h0, .inr (9, oX6 v_fault v_faultPlace (.ref h3) (.ref h4) (.ref h5) (.ref h6) (.ref h7) (.ref h8) v_count (.ref h9) v_depth (.ref h1) (.ref h10) x_27 v_items (.ref h11) (.ref h12) (.ref h13) v_partCount))] := hD_28
      refine lv_aload_n hx hb dX6_readMember_42 rfl (lv_at hl_18 1 rfl) ?_
      have hPc_29 := hP_28.sub (ws' := [(h1, .inr (10, oX7 (.ref h2) v_text_count v_text_over v_text_there)), (h2, .inl (k0, nv_text_items, .inl v_text_items)), (h0, .inr (9, oX6 v_fault v_faultPlace (.ref h3) (.ref h4) (.ref h5) (.ref h6) (.ref h7) (.ref h8) v_count (.ref h9) v_depth (.ref h1) (.ref h10) x_27 v_items (.ref h11) (.ref h12) (.ref h13) v_partCount))]) [0, 1, 2] rfl
      have hDc_29 := hD_28.sub (ws' := [(h1, .inr (10, oX7 (.ref h2) v_text_count v_text_over v_text_there)), (h2, .inl (k0, nv_text_items, .inl v_text_items)), (h0, .inr (9, oX6 v_fault v_faultPlace (.ref h3) (.ref h4) (.ref h5) (.ref h6) (.ref h7) (.ref h8) v_count (.ref h9) v_depth (.ref h1) (.ref h10) x_27 v_items (.ref h11) (.ref h12) (.ref h13) v_partCount))]) [0, 1, 2] (by decide) rfl
      have hKc_29 := hK.sub (tys' := [(k0, .int)]) [0] rfl
      have hFc_29 := va_free (wc := [(h1, .inr (10, oX7 (.ref h2) v_text_count v_text_over v_text_there)), (h2, .inl (k0, nv_text_items, .inl v_text_items)), (h0, .inr (9, oX6 v_fault v_faultPlace (.ref h3) (.ref h4) (.ref h5) (.ref h6) (.ref h7) (.ref h8) v_count (.ref h9) v_depth (.ref h1) (.ref h10) x_27 v_items (.ref h11) (.ref h12) (.ref h13) v_partCount))]) hD_28 hS_28 hA [0, 1, 2] rfl
      refine va_calli (va_runV (As := []) (rest := []) ⟨hx, hb, hml, hown, ht⟩ (mt_X6_readHex l dC dI h0 h1 h2 h3 h4 h5 h6 h7 h8 h9 h10 h11 h12 h13 k0 v_text_count v_text_over v_text_there v_text_items nv_text_items v_fault v_faultPlace v_count v_depth x_27 v_items v_partCount _ (w_17.2 c_19 x_27 ex_27) H_28.size) (cwV 0 ht (goodV tw_985 tw_987 tw_19 tw_239 gw_X6_readHex) rfl rfl rfl (by decide +kernel) ⟨Nat.le_of_ble_eq_true rfl, Nat.le_of_ble_eq_true rfl⟩) ⟨fun a U g mk q => by obtain ⟨q0, q1, qP, qK, qD, q5⟩ := q; exact ⟨q0, q1, qP, va_K.moved (u := U) (U := U.calling g mk a) (Vm.Alike.refl U.vm) qK, qD, q5.calling⟩, va_recv hKc_29 hPc_29 (ci := 9) (q0 := 2) rfl rfl, fun U hU hW => ⟨rfl, by rw [hU], by rw [hU]; exact hPc_29, va_K.moved hW.alike hKc_29, hDc_29.weaken (fun _ _ _ _ => trivial), hE.warm hW⟩⟩ rfl rfl hl_18.1 rfl (lv_room (Nat.le_of_ble_eq_true rfl)) dX6_readMember_43 ⟨Nat.le_of_ble_eq_true rfl, Nat.le_of_ble_eq_true rfl⟩) hS_28 (fun q _ h => hFc_29 q h) hFc_29 (fun r_29 u_29 t_29 H_29 locs_29 ht_29 hvm_29 hw_29 hB_29 hz_29 hk_29 hS_29 => ?_)
      subst hw_29
      obtain ⟨r_29_0, r_29_1, r_29_2, w_29, hP1_29, hD1_29⟩ := hB_29
      rw [ht_29] at hP1_29
      obtain ⟨hP_29, hD_29⟩ := va_join (wr := []) (w1 := [(h1, .inr (10, oX7 (.ref h2) v_text_count v_text_over v_text_there)), (h2, .inl (k0, nv_text_items, .inl v_text_items)), (h0, .inr (9, oX6 r_29_0 r_29_1 (.ref h3) (.ref h4) (.ref h5) (.ref h6) (.ref h7) (.ref h8) v_count (.ref h9) v_depth (.ref h1) (.ref h10) r_29_2 v_items (.ref h11) (.ref h12) (.ref h13) v_partCount))]) hP_28 hD_28 [0, 1, 2] [] rfl rfl (by decide) (by decide) hk_29 hFc_29 hP1_29 hD1_29
      have hP_29 := hP_29.sub (ws' := [(h1, .inr (10, oX7 (.ref h2) v_text_count v_text_over v_text_there)), (h2, .inl (k0, nv_text_items, .inl v_text_items)), (h0, .inr (9, oX6 r_29_0 r_29_1 (.ref h3) (.ref h4) (.ref h5) (.ref h6) (.ref h7) (.ref h8) v_count (.ref h9) v_depth (.ref h1) (.ref h10) r_29_2 v_items (.ref h11) (.ref h12) (.ref h13) v_partCount))]) [0, 1, 2] rfl
      have hD_29 := hD_29.sub (ws' := [(h1, .inr (10, oX7 (.ref h2) v_text_count v_text_over v_text_there)), (h2, .inl (k0, nv_text_items, .inl v_text_items)), (h0, .inr (9, oX6 r_29_0 r_29_1 (.ref h3) (.ref h4) (.ref h5) (.ref h6) (.ref h7) (.ref h8) v_count (.ref h9) v_depth (.ref h1) (.ref h10) r_29_2 v_items (.ref h11) (.ref h12) (.ref h13) v_partCount))]) [0, 1, 2] (by decide) rfl
      clear hPc_29 hDc_29 hKc_29 hFc_29 hP1_29 hD1_29 hk_29 hz_29
      rw [hQQ]
      exact W.iret (v := r_29) hx hb hr (fun t9 ht9 hW9 => ⟨⟨r_29, r_29, rfl, rfl, ⟨r_29_0, r_29_1, r_29_2, w_29, by rw [ht9]; exact hP_29, hD_29⟩⟩, hS_29.F ht9⟩) hS_29.2.2 dX6_readMember_46
