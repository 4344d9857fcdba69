def w_X8_writeParting_40 (na1_items : Nat) (Q : Int32 → Bool → (Nat → Int32) → Prop) (a1_count_40 : Int32) (a1_over_40 : Bool) (a1_items_40 : Nat → Int32) : Prop :=
  w_X7_turnRound a1_count_40 a1_items_40 na1_items (fun r_3_0 => Q  a1_count_40 a1_over_40 r_3_0)
def w_X8_writeParting_9B (na1_items : Nat) (v_cameFrom : Nat → Int32) (v_cameBy : Nat → Int32) (Q : Int32 → Bool → (Nat → Int32) → Prop) (K9 : Int32 → Int32 → Bool → (Nat → Int32) → Prop) (l2_9 : Int32) (a1_count_9 : Int32) (a1_over_9 : Bool) (a1_items_9 : Nat → Int32) : Prop :=
  ((l2_9 ≤ 0) → w_X8_writeParting_40 na1_items Q a1_count_9 a1_over_9 a1_items_9) ∧ ((¬ l2_9 ≤ 0) → ((3600 ≤ l2_9) → w_X8_writeParting_40 na1_items Q a1_count_9 a1_over_9 a1_items_9) ∧ ((¬ 3600 ≤ l2_9) → vp_in l2_9 3600 ∧ ∀ x_6 : Int32, x_6 = v_cameBy l2_9.toNatClampNeg → w_X7_add x_6 a1_count_9 a1_over_9 a1_items_9 na1_items (fun r_7_0 r_7_1 r_7_2 => vp_in l2_9 3600 ∧ ∀ x_8 : Int32, x_8 = v_cameFrom l2_9.toNatClampNeg → K9 x_8 r_7_0 r_7_1 r_7_2)))
def w_X8_writeParting_9 (na1_items : Nat) (v_cameFrom : Nat → Int32) (v_cameBy : Nat → Int32) (Q : Int32 → Bool → (Nat → Int32) → Prop) : Nat → Int32 → Int32 → Bool → (Nat → Int32) → Prop
  | 0, _, _, _, _ => False
  | n9 + 1, l2_9, a1_count_9, a1_over_9, a1_items_9 => w_X8_writeParting_9B na1_items v_cameFrom v_cameBy Q (w_X8_writeParting_9 na1_items v_cameFrom v_cameBy Q n9) l2_9 a1_count_9 a1_over_9 a1_items_9
def w_X8_writeParting (a1_items : Nat → Int32) (na1_items : Nat) (v_parted : Int32) (v_cameFrom : Nat → Int32) (v_cameBy : Nat → Int32) (Q : Int32 → Bool → (Nat → Int32) → Prop) : Prop :=
  w_X7_empty  (fun r_1_0 r_1_1 => ∃ k9 : Nat, w_X8_writeParting_9 na1_items v_cameFrom v_cameBy Q k9 v_parted r_1_0 r_1_1 a1_items)
set_option maxHeartbeats 4000000 in
set_option maxRecDepth 100000 in
theorem mt_X8_writeParting (l : Launch) (dC : Nat → ClassId) (dI : Nat → Nat → Nat) (h0 h1 h2 h3 h4 h5 h6 h7 h8 h9 : Nat) (k0 k1 k2 : ClassId) (a1_count : Int32) (a1_over : Bool) (a1_there : Bool) (a1_items : Nat → Int32) (na1_items : Nat) (v_onlyInOne : Bool) (v_onlyInOther : Bool) (v_stamp : Int32) (v_pairCount : Int32) (v_parted : Int32) (v_cameFrom : Nat → Int32) (v_cameBy : Nat → Int32) (Q : Int32 → Bool → (Nat → Int32) → Prop) (w : w_X8_writeParting a1_items na1_items v_parted v_cameFrom v_cameBy Q) (sz : Nat) : Met l yX8_writeParting (WS yX8_writeParting cX8_writeParting 3 none) ({ frames := 1, cells := 0, slots := 0, locals := 23 } : Room) (va_Pc [.ref h0, .ref h1] (fun U => U.heap.size = sz ∧ va_P (dC, dI) vwCl [(h1, .inr (10, oX7 (.ref h2) a1_count a1_over a1_there)), (h2, .inl (k0, na1_items, .inl a1_items)), (h0, .inr (11, oX8 (.ref h5) (.ref h6) (.ref h7) v_onlyInOne v_onlyInOther (.ref h8) v_stamp (.ref h9) (.ref h3) (.ref h4) v_pairCount v_parted)), (h3, .inl (k1, 3600, .inl v_cameFrom)), (h4, .inl (k2, 3600, .inl v_cameBy))] U.heap ∧ va_K (dC, dI) vwCl [(k0, .int), (k1, .int), (k2, .int)] U ∧ va_D (fun _ => True) [(h1, .inr (10, oX7 (.ref h2) a1_count a1_over a1_there)), (h2, .inl (k0, na1_items, .inl a1_items)), (h0, .inr (11, oX8 (.ref h5) (.ref h6) (.ref h7) v_onlyInOne v_onlyInOther (.ref h8) v_stamp (.ref h9) (.ref h3) (.ref h4) v_pairCount v_parted)), (h3, .inl (k1, 3600, .inl v_cameFrom)), (h4, .inl (k2, 3600, .inl v_cameBy))])) (va_Qv (fun (u : Nat) => u = 0) (fun (_ : Nat) (t : State) => ∃ (oa1_count : Int32), ∃ (oa1_over : Bool), ∃ (oa1_items : Nat → Int32), (Q oa1_count oa1_over oa1_items) ∧ va_P (dC, dI) vwCl [(h1, .inr (10, oX7 (.ref h2) oa1_count oa1_over a1_there)), (h2, .inl (k0, na1_items, .inl oa1_items)), (h0, .inr (11, oX8 (.ref h5) (.ref h6) (.ref h7) v_onlyInOne v_onlyInOther (.ref h8) v_stamp (.ref h9) (.ref h3) (.ref h4) v_pairCount v_parted)), (h3, .inl (k1, 3600, .inl v_cameFrom)), (h4, .inl (k2, 3600, .inl v_cameBy))] t.heap ∧ va_D (va_A [(h1, .inr (10, oX7 (.ref h2) a1_count a1_over a1_there)), (h2, .inl (k0, na1_items, .inl a1_items)), (h0, .inr (11, oX8 (.ref h5) (.ref h6) (.ref h7) v_onlyInOne v_onlyInOther (.ref h8) v_stamp (.ref h9) (.ref h3) (.ref h4) v_pairCount v_parted)), (h3, .inl (k1, 3600, .inl v_cameFrom)), (h4, .inl (k2, 3600, .inl v_cameBy))] sz) [(h1, .inr (10, oX7 (.ref h2) oa1_count oa1_over a1_there)), (h2, .inl (k0, na1_items, .inl oa1_items)), (h0, .inr (11, oX8 (.ref h5) (.ref h6) (.ref h7) v_onlyInOne v_onlyInOther (.ref h8) v_stamp (.ref h9) (.ref h3) (.ref h4) v_pairCount v_parted)), (h3, .inl (k1, 3600, .inl v_cameFrom)), (h4, .inl (k2, 3600, .inl v_cameBy))]) (va_A [(h1, .inr (10, oX7 (.ref h2) a1_count a1_over a1_there)), (h2, .inl (k0, na1_items, .inl a1_items)), (h0, .inr (11, oX8 (.ref h5) (.ref h6) (.ref h7) v_onlyInOne v_onlyInOther (.ref h8) v_stamp (.ref h9) (.ref h3) (.ref h4) v_pairCount v_parted)), (h3, .inl (k1, 3600, .inl v_cameFrom)), (h4, .inl (k2, 3600, .inl v_cameBy))] sz)) 0 0 (va_A [(h1, .inr (10, oX7 (.ref h2) a1_count a1_over a1_there)), (h2, .inl (k0, na1_items, .inl a1_items)), (h0, .inr (11, oX8 (.ref h5) (.ref h6) (.ref h7) v_onlyInOne v_onlyInOther (.ref h8) v_stamp (.ref h9) (.ref h3) (.ref h4) v_pairCount v_parted)), (h3, .inl (k1, 3600, .inl v_cameFrom)), (h4, .inl (k2, 3600, .inl v_cameBy))] sz) := by
  refine Met.ofW (cc := cX8_writeParting) (maxL := 3) (ret := none) (by decide) rfl ?_
  intro p e s m args below meth c s₁ B hml hv
  obtain ⟨rfl, hsz, hP, hK, hD0⟩ := hv
  have hx := B.exec
  have hb := B.bytes
  have hr := B.returns
  have hts := atoms_spec (ws := WS yX8_writeParting cX8_writeParting 3 none) B.pre
  have ht : ∀ w ∈ TW, w.before _ s = true := fun w h => hts w (List.mem_cons_of_mem _ h)
  have hown : s.vm.findClass "PatternWorkshop$Sets" = some m.cls := findClass_of_methodNamed B.named
  have hlocks := B.notSynchronized
  subst hsz
  have hD := hD0.self (sz := s.heap.size)
  generalize hAe : va_A [(h1, .inr (10, oX7 (.ref h2) a1_count a1_over a1_there)), (h2, .inl (k0, na1_items, .inl a1_items)), (h0, .inr (11, oX8 (.ref h5) (.ref h6) (.ref h7) v_onlyInOne v_onlyInOther (.ref h8) v_stamp (.ref h9) (.ref h3) (.ref h4) v_pairCount v_parted)), (h3, .inl (k1, 3600, .inl v_cameFrom)), (h4, .inl (k2, 3600, .inl v_cameBy))] s.heap.size = A at hD ⊢
  have hA : ∀ q : Nat, s.heap.size ≤ q → A q := fun q h => by rw [← hAe]; exact Or.inr h
  have hS : va_S A s.heap s.heap [] := va_S.rf
  have hP : va_P (dC, dI) vwCl [(h1, .inr (10, oX7 (.ref h2) a1_count a1_over a1_there)), (h2, .inl (k0, na1_items, .inl a1_items)), (h0, .inr (11, oX8 (.ref h5) (.ref h6) (.ref h7) v_onlyInOne v_onlyInOther (.ref h8) v_stamp (.ref h9) (.ref h3) (.ref h4) v_pairCount v_parted)), (h3, .inl (k1, 3600, .inl v_cameFrom)), (h4, .inl (k2, 3600, .inl v_cameBy))] s.heap := hP
  have hl := lv_entry ([.ref h0, .ref h1]) (n := 3) (Nat.le_of_ble_eq_true rfl)
  rw [lg_entry_eq]
  generalize (lg_sl ([.ref h0, .ref h1]) ++ List.replicate (3 - (lg_sl ([.ref h0, .ref h1])).length) Slot.unset).toArray = ls at hl ⊢
  have hl : lv_has ls 3 [(0, .ref h0), (1, .ref h1)] := hl
  clear hD0
  obtain ⟨QQ, hQQ⟩ : ∃ QQ, QQ = MQ below (va_Qv (fun (u : Nat) => u = 0) (fun (_ : Nat) (t : State) => ∃ (oa1_count : Int32), ∃ (oa1_over : Bool), ∃ (oa1_items : Nat → Int32), (Q oa1_count oa1_over oa1_items) ∧ va_P (dC, dI) vwCl [(h1, .inr (10, oX7 (.ref h2) oa1_count oa1_over a1_there)), (h2, .inl (k0, na1_items, .inl oa1_items)), (h0, .inr (11, oX8 (.ref h5) (.ref h6) (.ref h7) v_onlyInOne v_onlyInOther (.ref h8) v_stamp (.ref h9) (.ref h3) (.ref h4) v_pairCount v_parted)), (h3, .inl (k1, 3600, .inl v_cameFrom)), (h4, .inl (k2, 3600, .inl v_cameBy))] t.heap ∧ va_D A [(h1, .inr (10, oX7 (.ref h2) oa1_count oa1_over a1_there)), (h2, .inl (k0, na1_items, .inl oa1_items)), (h0, .inr (11, oX8 (.ref h5) (.ref h6) (.ref h7) v_onlyInOne v_onlyInOther (.ref h8) v_stamp (.ref h9) (.ref h3) (.ref h4) v_pairCount v_parted)), (h3, .inl (k1, 3600, .inl v_cameFrom)), (h4, .inl (k2, 3600, .inl v_cameBy))]) A) ([.ref h0, .ref h1]).toArray s 0 0 A := ⟨_, rfl⟩
  show W p l e ({ frames := 1, cells := 0, slots := 0, locals := 23 } : Room) s m ([.ref h0, .ref h1]).toArray below meth c s.heap [] 0 0 (MQ below (va_Qv (fun (u : Nat) => u = 0) (fun (_ : Nat) (t : State) => ∃ (oa1_count : Int32), ∃ (oa1_over : Bool), ∃ (oa1_items : Nat → Int32), (Q oa1_count oa1_over oa1_items) ∧ va_P (dC, dI) vwCl [(h1, .inr (10, oX7 (.ref h2) oa1_count oa1_over a1_there)), (h2, .inl (k0, na1_items, .inl oa1_items)), (h0, .inr (11, oX8 (.ref h5) (.ref h6) (.ref h7) v_onlyInOne v_onlyInOther (.ref h8) v_stamp (.ref h9) (.ref h3) (.ref h4) v_pairCount v_parted)), (h3, .inl (k1, 3600, .inl v_cameFrom)), (h4, .inl (k2, 3600, .inl v_cameBy))] t.heap ∧ va_D A [(h1, .inr (10, oX7 (.ref h2) oa1_count oa1_over a1_there)), (h2, .inl (k0, na1_items, .inl oa1_items)), (h0, .inr (11, oX8 (.ref h5) (.ref h6) (.ref h7) v_onlyInOne v_onlyInOther (.ref h8) v_stamp (.ref h9) (.ref h3) (.ref h4) v_pairCount v_parted)), (h3, .inl (k1, 3600, .inl v_cameFrom)), (h4, .inl (k2, 3600, .inl v_cameBy))]) A) ([.ref h0, .ref h1]).toArray s 0 0 A) (F0 m 0 ls [])
  rw [← hQQ]
  unfold w_X8_writeParting at w
  refine lv_aload_n hx hb dX8_writeParting_0 rfl (lv_at hl 1 rfl) ?_
  have hPc_1 := vaPq hP (wsq := [(h1, .inr (10, oX7 (.ref h2) a1_count a1_over a1_there))]) [0] rfl
  have hDc_1 := vaDq hD (wsq := [(h1, .inr (10, oX7 (.ref h2) a1_count a1_over a1_there))]) [0] (by decide) rfl
  have hKc_1 := vaKq hK (tysq := []) [] rfl
  have hFc_1 := va_free (wc := [(h1, .inr (10, oX7 (.ref h2) a1_count a1_over a1_there))]) hD hS hA [0] rfl
  refine va_callv (va_runV (As := []) (rest := []) ⟨hx, hb, hml, hown, ht⟩ (mt_X7_empty l dC dI h1 h2 a1_count a1_over a1_there _ w s.heap.size) (cwV 0 ht (goodV tw_1964 tw_1125 tw_1126 tw_237 gw_X7_empty) rfl rfl rfl (by decide +kernel) ⟨Nat.le_of_ble_eq_true rfl, Nat.le_of_ble_eq_true rfl⟩) ⟨fun a U g mk q => by obtain ⟨q0, q1, qP, qK, qD⟩ := q; exact ⟨q0, q1, qP, va_K.moved (u := U) (U := U.calling g mk a) (Vm.Alike.refl U.vm) qK, qD⟩, va_recv hKc_1 hPc_1 (ci := 10) (q0 := 0) rfl rfl, fun U hU hW => ⟨rfl, by rw [hU], by rw [hU]; exact hPc_1, va_K.moved hW.alike hKc_1, hDc_1.weaken (fun _ _ _ _ => trivial)⟩⟩ rfl rfl hl.1 rfl (lv_room (Nat.le_of_ble_eq_true rfl)) dX8_writeParting_1 ⟨Nat.le_of_ble_eq_true rfl, Nat.le_of_ble_eq_true rfl⟩) hS (fun q _ h => hFc_1 q h) hFc_1 (fun u_1 t_1 H_1 locs_1 ht_1 hvm_1 hw_1 hB_1 hz_1 hk_1 hS_1 => ?_)
  subst hw_1
  obtain ⟨r_1_0, r_1_1, w_1, hP1_1, hD1_1⟩ := hB_1
  rw [ht_1] at hP1_1
  obtain ⟨hP_1, hD_1⟩ := va_join (wr := [(h2, .inl (k0, na1_items, .inl a1_items)), (h0, .inr (11, oX8 (.ref h5) (.ref h6) (.ref h7) v_onlyInOne v_onlyInOther (.ref h8) v_stamp (.ref h9) (.ref h3) (.ref h4) v_pairCount v_parted)), (h3, .inl (k1, 3600, .inl v_cameFrom)), (h4, .inl (k2, 3600, .inl v_cameBy))]) (w1 := [(h1, .inr (10, oX7 (.ref h2) r_1_0 r_1_1 a1_there))]) hP hD [0] [1, 2, 3, 4] rfl rfl (by decide) (by decide) hk_1 hFc_1 hP1_1 hD1_1
  have hP_1 := vaPq hP_1 (wsq := [(h1, .inr (10, oX7 (.ref h2) r_1_0 r_1_1 a1_there)), (h2, .inl (k0, na1_items, .inl a1_items)), (h0, .inr (11, oX8 (.ref h5) (.ref h6) (.ref h7) v_onlyInOne v_onlyInOther (.ref h8) v_stamp (.ref h9) (.ref h3) (.ref h4) v_pairCount v_parted)), (h3, .inl (k1, 3600, .inl v_cameFrom)), (h4, .inl (k2, 3600, .inl v_cameBy))]) [4, 0, 1, 2, 3] rfl
  have hD_1 := vaDq hD_1 (wsq := [(h1, .inr (10, oX7 (.ref h2) r_1_0 r_1_1 a1_there)), (h2, .inl (k0, na1_items, .inl a1_items)), (h0, .inr (11, oX8 (.ref h5) (.ref h6) (.ref h7) v_onlyInOne v_onlyInOther (.ref h8) v_stamp (.ref h9) (.ref h3) (.ref h4) v_pairCount v_parted)), (h3, .inl (k1, 3600, .inl v_cameFrom)), (h4, .inl (k2, 3600, .inl v_cameBy))]) [4, 0, 1, 2, 3] (by decide) rfl
  clear hPc_1 hDc_1 hKc_1 hFc_1 hP1_1 hD1_1 hk_1 hz_1
  refine lv_aload_n hx hb dX8_writeParting_4 rfl (lv_at hl 0 rfl) ?_
  refine va_get (D := (dC, dI)) (ci := 11) (v := .int v_parted) (C := RX8) (T := TX8) (N := 12) hx hb ht inX8 hown hK hP_1 2 rfl rfl 11 (by decide) (ht _ tw_773) (fun _ h9 => h9) rfl dX8_writeParting_5 ?_
  refine lv_istore_n (lv' := [(2, .int v_parted), (0, .ref h0), (1, .ref h1)]) hx hb dX8_writeParting_8 rfl hl (by decide) rfl (fun ls_2 hl_2 => ?_)
  clear hl
  have k_9 : ∀ n_9 : Nat, ∀ (l2_9 : Int32) (a1_count_9 : Int32) (a1_over_9 : Bool) (a1_items_9 : Nat → Int32), ∀ (H_b9 : Heap) (locs_b9 : List Loc) (ls_b9 : Array Slot), w_X8_writeParting_9 na1_items v_cameFrom v_cameBy Q n_9 l2_9 a1_count_9 a1_over_9 a1_items_9 → va_P (dC, dI) vwCl [(h1, .inr (10, oX7 (.ref h2) a1_count_9 a1_over_9 a1_there)), (h2, .inl (k0, na1_items, .inl a1_items_9)), (h0, .inr (11, oX8 (.ref h5) (.ref h6) (.ref h7) v_onlyInOne v_onlyInOther (.ref h8) v_stamp (.ref h9) (.ref h3) (.ref h4) v_pairCount v_parted)), (h3, .inl (k1, 3600, .inl v_cameFrom)), (h4, .inl (k2, 3600, .inl v_cameBy))] H_b9 → va_D A [(h1, .inr (10, oX7 (.ref h2) a1_count_9 a1_over_9 a1_there)), (h2, .inl (k0, na1_items, .inl a1_items_9)), (h0, .inr (11, oX8 (.ref h5) (.ref h6) (.ref h7) v_onlyInOne v_onlyInOther (.ref h8) v_stamp (.ref h9) (.ref h3) (.ref h4) v_pairCount v_parted)), (h3, .inl (k1, 3600, .inl v_cameFrom)), (h4, .inl (k2, 3600, .inl v_cameBy))] → va_S A s.heap H_b9 locs_b9 → lv_has ls_b9 3 [(0, .ref h0), (1, .ref h1), (2, .int l2_9)] → W p l e ({ frames := 1, cells := 0, slots := 0, locals := 23 } : Room) s m ([.ref h0, .ref h1]).toArray below meth c H_b9 locs_b9 0 0 QQ (F0 m 9 ls_b9 []) := by
    intro n_9
    induction n_9 with
    | zero =>
      intro l2_9 a1_count_9 a1_over_9 a1_items_9 H_b9 locs_b9 ls_b9 w_b9 hP_b9 hD_b9 hS_b9 hl_b9
      exact False.elim (by unfold w_X8_writeParting_9 at w_b9; exact w_b9)
    | succ n_9 ih_9 =>
      intro l2_9 a1_count_9 a1_over_9 a1_items_9 H_b9 locs_b9 ls_b9 w_b9 hP_b9 hD_b9 hS_b9 hl_b9
      unfold w_X8_writeParting_9 at w_b9
      unfold w_X8_writeParting_9B at w_b9
      refine lv_iload_n hx hb dX8_writeParting_9 rfl (lv_at hl_b9 2 rfl) ?_
      have k_40 : ∀ (a1_count_40 : Int32) (a1_over_40 : Bool) (a1_items_40 : Nat → Int32), ∀ (H_b40 : Heap) (locs_b40 : List Loc) (ls_b40 : Array Slot), w_X8_writeParting_40 na1_items Q a1_count_40 a1_over_40 a1_items_40 → va_P (dC, dI) vwCl [(h1, .inr (10, oX7 (.ref h2) a1_count_40 a1_over_40 a1_there)), (h2, .inl (k0, na1_items, .inl a1_items_40)), (h0, .inr (11, oX8 (.ref h5) (.ref h6) (.ref h7) v_onlyInOne v_onlyInOther (.ref h8) v_stamp (.ref h9) (.ref h3) (.ref h4) v_pairCount v_parted)), (h3, .inl (k1, 3600, .inl v_cameFrom)), (h4, .inl (k2, 3600, .inl v_cameBy))] H_b40 → va_D A [(h1, .inr (10, oX7 (.ref h2) a1_count_40 a1_over_40 a1_there)), (h2, .inl (k0, na1_items, .inl a1_items_40)), (h0, .inr (11, oX8 (.ref h5) (.ref h6) (.ref h7) v_onlyInOne v_onlyInOther (.ref h8) v_stamp (.ref h9) (.ref h3) (.ref h4) v_pairCount v_parted)), (h3, .inl (k1, 3600, .inl v_cameFrom)), (h4, .inl (k2, 3600, .inl v_cameBy))] → va_S A s.heap H_b40 locs_b40 → lv_has ls_b40 3 [(1, .ref h1)] → W p l e ({ frames := 1, cells := 0, slots := 0, locals := 23 } : Room) s m ([.ref h0, .ref h1]).toArray below meth c H_b40 locs_b40 0 0 QQ (F0 m 40 ls_b40 []) := by
        intro a1_count_40 a1_over_40 a1_items_40 H_b40 locs_b40 ls_b40 w_b40 hP_b40 hD_b40 hS_b40 hl_b40
        unfold w_X8_writeParting_40 at w_b40
        refine lv_aload_n hx hb dX8_writeParting_40 rfl (lv_at hl_b40 0 rfl) ?_
        have hPc_3 := vaPq hP_b40 (wsq := [(h1, .inr (10, oX7 (.ref h2) a1_count_40 a1_over_40 a1_there)), (h2, .inl (k0, na1_items, .inl a1_items_40))]) [0, 1] rfl
        have hDc_3 := vaDq hD_b40 (wsq := [(h1, .inr (10, oX7 (.ref h2) a1_count_40 a1_over_40 a1_there)), (h2, .inl (k0, na1_items, .inl a1_items_40))]) [0, 1] (by decide) rfl
        have hKc_3 := vaKq hK (tysq := [(k0, .int)]) [0] rfl
        have hFc_3 := va_free (wc := [(h1, .inr (10, oX7 (.ref h2) a1_count_40 a1_over_40 a1_there)), (h2, .inl (k0, na1_items, .inl a1_items_40))]) hD_b40 hS_b40 hA [0, 1] rfl
        refine va_callv (va_runV (As := []) (rest := []) ⟨hx, hb, hml, hown, ht⟩ (mt_X7_turnRound l dC dI h1 h2 k0 a1_count_40 a1_over_40 a1_there a1_items_40 na1_items _ w_b40 H_b40.size) (cwV 0 ht (goodV tw_1966 tw_1967 tw_1968 tw_237 gw_X7_turnRound) rfl rfl rfl (by decide +kernel) ⟨Nat.le_of_ble_eq_true rfl, Nat.le_of_ble_eq_true rfl⟩) ⟨fun a U g mk q => by obtain ⟨q0, q1, qP, qK, qD⟩ := q; exact ⟨q0, q1, qP, va_K.moved (u := U) (U := U.calling g mk a) (Vm.Alike.refl U.vm) qK, qD⟩, va_recv hKc_3 hPc_3 (ci := 10) (q0 := 0) rfl rfl, fun U hU hW => ⟨rfl, by rw [hU], by rw [hU]; exact hPc_3, va_K.moved hW.alike hKc_3, hDc_3.weaken (fun _ _ _ _ => trivial)⟩⟩ rfl rfl hl_b40.1 rfl (lv_room (Nat.le_of_ble_eq_true rfl)) dX8_writeParting_41 ⟨Nat.le_of_ble_eq_true rfl, Nat.le_of_ble_eq_true rfl⟩) hS_b40 (fun q _ h => hFc_3 q h) hFc_3 (fun u_3 t_3 H_3 locs_3 ht_3 hvm_3 hw_3 hB_3 hz_3 hk_3 hS_3 => ?_)
        subst hw_3
        obtain ⟨r_3_0, w_3, hP1_3, hD1_3⟩ := hB_3
        rw [ht_3] at hP1_3
        obtain ⟨hP_3, hD_3⟩ := va_join (wr := [(h0, .inr (11, oX8 (.ref h5) (.ref h6) (.ref h7) v_onlyInOne v_onlyInOther (.ref h8) v_stamp (.ref h9) (.ref h3) (.ref h4) v_pairCount v_parted)), (h3, .inl (k1, 3600, .inl v_cameFrom)), (h4, .inl (k2, 3600, .inl v_cameBy))]) (w1 := [(h1, .inr (10, oX7 (.ref h2) a1_count_40 a1_over_40 a1_there)), (h2, .inl (k0, na1_items, .inl r_3_0))]) hP_b40 hD_b40 [0, 1] [2, 3, 4] rfl rfl (by decide) (by decide) hk_3 hFc_3 hP1_3 hD1_3
        have hP_3 := vaPq hP_3 (wsq := [(h1, .inr (10, oX7 (.ref h2) a1_count_40 a1_over_40 a1_there)), (h2, .inl (k0, na1_items, .inl r_3_0)), (h0, .inr (11, oX8 (.ref h5) (.ref h6) (.ref h7) v_onlyInOne v_onlyInOther (.ref h8) v_stamp (.ref h9) (.ref h3) (.ref h4) v_pairCount v_parted)), (h3, .inl (k1, 3600, .inl v_cameFrom)), (h4, .inl (k2, 3600, .inl v_cameBy))]) [3, 4, 0, 1, 2] rfl
        have hD_3 := vaDq hD_3 (wsq := [(h1, .inr (10, oX7 (.ref h2) a1_count_40 a1_over_40 a1_there)), (h2, .inl (k0, na1_items, .inl r_3_0)), (h0, .inr (11, oX8 (.ref h5) (.ref h6) (.ref h7) v_onlyInOne v_onlyInOther (.ref h8) v_stamp (.ref h9) (.ref h3) (.ref h4) v_pairCount v_parted)), (h3, .inl (k1, 3600, .inl v_cameFrom)), (h4, .inl (k2, 3600, .inl v_cameBy))]) [3, 4, 0, 1, 2] (by decide) rfl
        clear hPc_3 hDc_3 hKc_3 hFc_3 hP1_3 hD1_3 hk_3 hz_3
        rw [hQQ]
        exact W.vret hx hb hr (fun t9 ht9 hW9 => ⟨⟨0, rfl, rfl, ⟨a1_count_40, a1_over_40, r_3_0, w_3, by rw [ht9]; exact hP_3, hD_3⟩⟩, hS_3.F ht9⟩) hS_3.2.2 dX8_writeParting_44
      refine lv_if_le (tgt := 40) hx hb dX8_writeParting_10 (by decide) (fun c_4 => ?_) (fun c_4 => ?_)
      · exact k_40 a1_count_9 a1_over_9 a1_items_9 _ _ _ (w_b9.1 c_4) hP_b9 hD_b9 hS_b9 (lv_sub hl_b9 [1] rfl)
      · refine lv_iload_n hx hb dX8_writeParting_13 rfl (lv_at hl_b9 2 rfl) ?_
        refine lv_sipush (v := 3600) hx hb dX8_writeParting_14 (by decide) ?_
        refine lv_icmp_ge (tgt := 40) hx hb dX8_writeParting_17 (by decide) (fun c_5 => ?_) (fun c_5 => ?_)
        · exact k_40 a1_count_9 a1_over_9 a1_items_9 _ _ _ ((w_b9.2 c_4).1 c_5) hP_b9 hD_b9 hS_b9 (lv_sub hl_b9 [1] rfl)
        · refine lv_aload_n hx hb dX8_writeParting_20 rfl (lv_at hl_b9 1 rfl) ?_
          refine lv_aload_n hx hb dX8_writeParting_21 rfl (lv_at hl_b9 0 rfl) ?_
          refine va_get (D := (dC, dI)) (ci := 11) (v := .ref h4) (C := RX8) (T := TX8) (N := 12) hx hb ht inX8 hown hK hP_b9 2 rfl rfl 9 (by decide) (ht _ tw_771) (fun _ h9 => h9) rfl dX8_writeParting_22 ?_
          refine lv_iload_n hx hb dX8_writeParting_25 rfl (lv_at hl_b9 2 rfl) ?_
          refine va_iald hx hb hK hP_b9 4 2 rfl rfl (i := l2_9) ((w_b9.2 c_4).2 c_5).1 dX8_writeParting_26 ?_
          refine lv_topi (fun x_6 ex_6 => ?_)
          have ex_6 : x_6 = v_cameBy l2_9.toNatClampNeg := ex_6
          have hPc_7 := vaPq hP_b9 (wsq := [(h1, .inr (10, oX7 (.ref h2) a1_count_9 a1_over_9 a1_there)), (h2, .inl (k0, na1_items, .inl a1_items_9))]) [0, 1] rfl
          have hDc_7 := vaDq hD_b9 (wsq := [(h1, .inr (10, oX7 (.ref h2) a1_count_9 a1_over_9 a1_there)), (h2, .inl (k0, na1_items, .inl a1_items_9))]) [0, 1] (by decide) rfl
          have hKc_7 := vaKq hK (tysq := [(k0, .int)]) [0] rfl
          have hFc_7 := va_free (wc := [(h1, .inr (10, oX7 (.ref h2) a1_count_9 a1_over_9 a1_there)), (h2, .inl (k0, na1_items, .inl a1_items_9))]) hD_b9 hS_b9 hA [0, 1] rfl
          refine va_callv (va_runV (As := [.int x_6]) (rest := []) ⟨hx, hb, hml, hown, ht⟩ (mt_X7_add l dC dI h1 h2 k0 x_6 a1_count_9 a1_over_9 a1_there a1_items_9 na1_items _ ((((w_b9.2 c_4).2 c_5).2) x_6 ex_6) H_b9.size) (cwV 1 ht (goodV tw_1965 tw_866 tw_867 tw_237 gw_X7_add) rfl rfl rfl (by decide +kernel) ⟨Nat.le_of_ble_eq_true rfl, Nat.le_of_ble_eq_true rfl⟩) ⟨fun a U g mk q => by obtain ⟨q0, q1, qP, qK, qD⟩ := q; exact ⟨q0, q1, qP, va_K.moved (u := U) (U := U.calling g mk a) (Vm.Alike.refl U.vm) qK, qD⟩, va_recv hKc_7 hPc_7 (ci := 10) (q0 := 0) rfl rfl, fun U hU hW => ⟨rfl, by rw [hU], by rw [hU]; exact hPc_7, va_K.moved hW.alike hKc_7, hDc_7.weaken (fun _ _ _ _ => trivial)⟩⟩ rfl rfl hl_b9.1 rfl (lv_room (Nat.le_of_ble_eq_true rfl)) dX8_writeParting_27 ⟨Nat.le_of_ble_eq_true rfl, Nat.le_of_ble_eq_true rfl⟩) hS_b9 (fun q _ h => hFc_7 q h) hFc_7 (fun u_7 t_7 H_7 locs_7 ht_7 hvm_7 hw_7 hB_7 hz_7 hk_7 hS_7 => ?_)
          subst hw_7
          obtain ⟨r_7_0, r_7_1, r_7_2, w_7, hP1_7, hD1_7⟩ := hB_7
          rw [ht_7] at hP1_7
          obtain ⟨hP_7, hD_7⟩ := va_join (wr := [(h0, .inr (11, oX8 (.ref h5) (.ref h6) (.ref h7) v_onlyInOne v_onlyInOther (.ref h8) v_stamp (.ref h9) (.ref h3) (.ref h4) v_pairCount v_parted)), (h3, .inl (k1, 3600, .inl v_cameFrom)), (h4, .inl (k2, 3600, .inl v_cameBy))]) (w1 := [(h1, .inr (10, oX7 (.ref h2) r_7_0 r_7_1 a1_there)), (h2, .inl (k0, na1_items, .inl r_7_2))]) hP_b9 hD_b9 [0, 1] [2, 3, 4] rfl rfl (by decide) (by decide) hk_7 hFc_7 hP1_7 hD1_7
          have hP_7 := vaPq hP_7 (wsq := [(h1, .inr (10, oX7 (.ref h2) r_7_0 r_7_1 a1_there)), (h2, .inl (k0, na1_items, .inl r_7_2)), (h0, .inr (11, oX8 (.ref h5) (.ref h6) (.ref h7) v_onlyInOne v_onlyInOther (.ref h8) v_stamp (.ref h9) (.ref h3) (.ref h4) v_pairCount v_parted)), (h3, .inl (k1, 3600, .inl v_cameFrom)), (h4, .inl (k2, 3600, .inl v_cameBy))]) [3, 4, 0, 1, 2] rfl
          have hD_7 := vaDq hD_7 (wsq := [(h1, .inr (10, oX7 (.ref h2) r_7_0 r_7_1 a1_there)), (h2, .inl (k0, na1_items, .inl r_7_2)), (h0, .inr (11, oX8 (.ref h5) (.ref h6) (.ref h7) v_onlyInOne v_onlyInOther (.ref h8) v_stamp (.ref h9) (.ref h3) (.ref h4) v_pairCount v_parted)), (h3, .inl (k1, 3600, .inl v_cameFrom)), (h4, .inl (k2, 3600, .inl v_cameBy))]) [3, 4, 0, 1, 2] (by decide) rfl
          clear hPc_7 hDc_7 hKc_7 hFc_7 hP1_7 hD1_7 hk_7 hz_7
          refine lv_aload_n hx hb dX8_writeParting_30 rfl (lv_at hl_b9 0 rfl) ?_
          refine va_get (D := (dC, dI)) (ci := 11) (v := .ref h3) (C := RX8) (T := TX8) (N := 12) hx hb ht inX8 hown hK hP_7 2 rfl rfl 8 (by decide) (ht _ tw_770) (fun _ h9 => h9) rfl dX8_writeParting_31 ?_
          refine lv_iload_n hx hb dX8_writeParting_34 rfl (lv_at hl_b9 2 rfl) ?_
          refine va_iald hx hb hK hP_7 3 1 rfl rfl (i := l2_9) w_7.1 dX8_writeParting_35 ?_
          refine lv_topi (fun x_8 ex_8 => ?_)
          have ex_8 : x_8 = v_cameFrom l2_9.toNatClampNeg := ex_8
          refine lv_istore_n (lv' := [(2, .int x_8), (0, .ref h0), (1, .ref h1)]) hx hb dX8_writeParting_36 rfl hl_b9 (by decide) rfl (fun ls_9 hl_9 => ?_)
          clear hl_b9
          refine lv_goto (tgt := 9) hx hb dX8_writeParting_37 (by decide) ?_
          exact ih_9 x_8 r_7_0 r_7_1 r_7_2 _ _ _ (w_7.2 x_8 ex_8) hP_7 hD_7 hS_7 (lv_sub hl_9 [1, 2, 0] rfl)
  obtain ⟨n_10, w_10⟩ := w_1
  exact k_9 n_10 v_parted r_1_0 r_1_1 a1_items _ _ _ w_10 hP_1 hD_1 hS_1 (lv_sub hl_2 [1, 2, 0] rfl)
def w_X8_look_62 (Q : Bool → Bool → Int32 → Prop) (v_onlyInOne_62 : Bool) (v_onlyInOther_62 : Bool) (v_parted_62 : Int32) : Prop :=
  Q  v_onlyInOne_62 v_onlyInOther_62 v_parted_62
def w_X8_look_40 (p1 : Int32) (p2 : Int32) (p3 : Int32) (Q : Bool → Bool → Int32 → Prop) (s0_40 : Int32) (s1_40 : Int32) (v_onlyInOne_40 : Bool) (v_onlyInOther_40 : Bool) (v_parted_40 : Int32) : Prop :=
  ∀ x_3 : Int32, x_3 = s1_40 ||| s0_40 → (x_3 = 0 ∨ x_3 = 1) ∧ ∀ b_4 : Bool, x_3 = bz b_4 → ((p2 = p3) → w_X8_look_62 Q v_onlyInOne_40 b_4 v_parted_40) ∧ ((¬ p2 = p3) → ((¬ v_parted_40 = (-1)) → w_X8_look_62 Q v_onlyInOne_40 b_4 v_parted_40) ∧ ((v_parted_40 = (-1)) → w_X8_look_62 Q v_onlyInOne_40 b_4 p1))
def w_X8_look_39 (p1 : Int32) (p2 : Int32) (p3 : Int32) (Q : Bool → Bool → Int32 → Prop) (s0_39 : Int32) (v_onlyInOne_39 : Bool) (v_onlyInOther_39 : Bool) (v_parted_39 : Int32) : Prop :=
  w_X8_look_40 p1 p2 p3 Q 0 s0_39 v_onlyInOne_39 v_onlyInOther_39 v_parted_39
def w_X8_look_18 (p1 : Int32) (p2 : Int32) (p3 : Int32) (Q : Bool → Bool → Int32 → Prop) (s0_18 : Int32) (s1_18 : Int32) (v_onlyInOne_18 : Bool) (v_onlyInOther_18 : Bool) (v_parted_18 : Int32) : Prop :=
  ∀ x_1 : Int32, x_1 = s1_18 ||| s0_18 → (x_1 = 0 ∨ x_1 = 1) ∧ ∀ b_2 : Bool, x_1 = bz b_2 → ((p3 = 0) → w_X8_look_39 p1 p2 p3 Q (bz v_onlyInOther_18) b_2 v_onlyInOther_18 v_parted_18) ∧ ((¬ p3 = 0) → ((¬ p2 = 0) → w_X8_look_39 p1 p2 p3 Q (bz v_onlyInOther_18) b_2 v_onlyInOther_18 v_parted_18) ∧ ((p2 = 0) → w_X8_look_40 p1 p2 p3 Q 1 (bz v_onlyInOther_18) b_2 v_onlyInOther_18 v_parted_18))
def w_X8_look_17 (p1 : Int32) (p2 : Int32) (p3 : Int32) (Q : Bool → Bool → Int32 → Prop) (s0_17 : Int32) (v_onlyInOne_17 : Bool) (v_onlyInOther_17 : Bool) (v_parted_17 : Int32) : Prop :=
  w_X8_look_18 p1 p2 p3 Q 0 s0_17 v_onlyInOne_17 v_onlyInOther_17 v_parted_17
def w_X8_look (p1 : Int32) (p2 : Int32) (p3 : Int32) (v_onlyInOne : Bool) (v_onlyInOther : Bool) (v_parted : Int32) (Q : Bool → Bool → Int32 → Prop) : Prop :=
  ((p2 = 0) → w_X8_look_17 p1 p2 p3 Q (bz v_onlyInOne) v_onlyInOne v_onlyInOther v_parted) ∧ ((¬ p2 = 0) → ((¬ p3 = 0) → w_X8_look_17 p1 p2 p3 Q (bz v_onlyInOne) v_onlyInOne v_onlyInOther v_parted) ∧ ((p3 = 0) → w_X8_look_18 p1 p2 p3 Q 1 (bz v_onlyInOne) v_onlyInOne v_onlyInOther v_parted))
set_option maxHeartbeats 4000000 in
set_option maxRecDepth 100000 in
theorem mt_X8_look (l : Launch) (dC : Nat → ClassId) (dI : Nat → Nat → Nat) (h0 h1 h2 h3 h4 h5 h6 h7 : Nat) (p1 : Int32) (p2 : Int32) (p3 : Int32) (v_onlyInOne : Bool) (v_onlyInOther : Bool) (v_stamp : Int32) (v_pairCount : Int32) (v_parted : Int32) (Q : Bool → Bool → Int32 → Prop) (w : w_X8_look p1 p2 p3 v_onlyInOne v_onlyInOther v_parted Q) (sz : Nat) : Met l yX8_look (WS yX8_look cX8_look 4 none) ({ frames := 0, cells := 0, slots := 0, locals := 0 } : Room) (va_Pc [.ref h0, .int p1, .int p2, .int p3] (fun U => U.heap.size = sz ∧ va_P (dC, dI) vwCl [(h0, .inr (11, oX8 (.ref h1) (.ref h2) (.ref h3) v_onlyInOne v_onlyInOther (.ref h4) v_stamp (.ref h5) (.ref h6) (.ref h7) v_pairCount v_parted))] U.heap ∧ va_K (dC, dI) vwCl [] U ∧ va_D (fun _ => True) [(h0, .inr (11, oX8 (.ref h1) (.ref h2) (.ref h3) v_onlyInOne v_onlyInOther (.ref h4) v_stamp (.ref h5) (.ref h6) (.ref h7) v_pairCount v_parted))])) (va_Qv (fun (u : Nat) => u = 0) (fun (_ : Nat) (t : State) => ∃ (ov_onlyInOne : Bool), ∃ (ov_onlyInOther : Bool), ∃ (ov_parted : Int32), (Q ov_onlyInOne ov_onlyInOther ov_parted) ∧ va_P (dC, dI) vwCl [(h0, .inr (11, oX8 (.ref h1) (.ref h2) (.ref h3) ov_onlyInOne ov_onlyInOther (.ref h4) v_stamp (.ref h5) (.ref h6) (.ref h7) v_pairCount ov_parted))] t.heap ∧ va_D (va_A [(h0, .inr (11, oX8 (.ref h1) (.ref h2) (.ref h3) v_onlyInOne v_onlyInOther (.ref h4) v_stamp (.ref h5) (.ref h6) (.ref h7) v_pairCount v_parted))] sz) [(h0, .inr (11, oX8 (.ref h1) (.ref h2) (.ref h3) ov_onlyInOne ov_onlyInOther (.ref h4) v_stamp (.ref h5) (.ref h6) (.ref h7) v_pairCount ov_parted))]) (va_A [(h0, .inr (11, oX8 (.ref h1) (.ref h2) (.ref h3) v_onlyInOne v_onlyInOther (.ref h4) v_stamp (.ref h5) (.ref h6) (.ref h7) v_pairCount v_parted))] sz)) 0 0 (va_A [(h0, .inr (11, oX8 (.ref h1) (.ref h2) (.ref h3) v_onlyInOne v_onlyInOther (.ref h4) v_stamp (.ref h5) (.ref h6) (.ref h7) v_pairCount v_parted))] sz) := by
  refine Met.ofW (cc := cX8_look) (maxL := 4) (ret := none) (by decide) rfl ?_
  intro p e s m args below meth c s₁ B hml hv
  obtain ⟨rfl, hsz, hP, hK, hD0⟩ := hv
  have hx := B.exec
  have hb := B.bytes
  have hr := B.returns
  have hts := atoms_spec (ws := WS yX8_look cX8_look 4 none) B.pre
  have ht : ∀ w ∈ TW, w.before _ s = true := fun w h => hts w (List.mem_cons_of_mem _ h)
  have hown : s.vm.findClass "PatternWorkshop$Sets" = some m.cls := findClass_of_methodNamed B.named
  have hlocks := B.notSynchronized
  subst hsz
  have hD := hD0.self (sz := s.heap.size)
  generalize hAe : va_A [(h0, .inr (11, oX8 (.ref h1) (.ref h2) (.ref h3) v_onlyInOne v_onlyInOther (.ref h4) v_stamp (.ref h5) (.ref h6) (.ref h7) v_pairCount v_parted))] s.heap.size = A at hD ⊢
  have hA : ∀ q : Nat, s.heap.size ≤ q → A q := fun q h => by rw [← hAe]; exact Or.inr h
  have hS : va_S A s.heap s.heap [] := va_S.rf
  have hP : va_P (dC, dI) vwCl [(h0, .inr (11, oX8 (.ref h1) (.ref h2) (.ref h3) v_onlyInOne v_onlyInOther (.ref h4) v_stamp (.ref h5) (.ref h6) (.ref h7) v_pairCount v_parted))] s.heap := hP
  have hl := lv_entry ([.ref h0, .int p1, .int p2, .int p3]) (n := 4) (Nat.le_of_ble_eq_true rfl)
  rw [lg_entry_eq]
  generalize (lg_sl ([.ref h0, .int p1, .int p2, .int p3]) ++ List.replicate (4 - (lg_sl ([.ref h0, .int p1, .int p2, .int p3])).length) Slot.unset).toArray = ls at hl ⊢
  have hl : lv_has ls 4 [(0, .ref h0), (1, .int p1), (2, .int p2), (3, .int p3)] := hl
  clear hD0
  obtain ⟨QQ, hQQ⟩ : ∃ QQ, QQ = MQ below (va_Qv (fun (u : Nat) => u = 0) (fun (_ : Nat) (t : State) => ∃ (ov_onlyInOne : Bool), ∃ (ov_onlyInOther : Bool), ∃ (ov_parted : Int32), (Q ov_onlyInOne ov_onlyInOther ov_parted) ∧ va_P (dC, dI) vwCl [(h0, .inr (11, oX8 (.ref h1) (.ref h2) (.ref h3) ov_onlyInOne ov_onlyInOther (.ref h4) v_stamp (.ref h5) (.ref h6) (.ref h7) v_pairCount ov_parted))] t.heap ∧ va_D A [(h0, .inr (11, oX8 (.ref h1) (.ref h2) (.ref h3) ov_onlyInOne ov_onlyInOther (.ref h4) v_stamp (.ref h5) (.ref h6) (.ref h7) v_pairCount ov_parted))]) A) ([.ref h0, .int p1, .int p2, .int p3]).toArray s 0 0 A := ⟨_, rfl⟩
  show W p l e ({ frames := 0, cells := 0, slots := 0, locals := 0 } : Room) s m ([.ref h0, .int p1, .int p2, .int p3]).toArray below meth c s.heap [] 0 0 (MQ below (va_Qv (fun (u : Nat) => u = 0) (fun (_ : Nat) (t : State) => ∃ (ov_onlyInOne : Bool), ∃ (ov_onlyInOther : Bool), ∃ (ov_parted : Int32), (Q ov_onlyInOne ov_onlyInOther ov_parted) ∧ va_P (dC, dI) vwCl [(h0, .inr (11, oX8 (.ref h1) (.ref h2) (.ref h3) ov_onlyInOne ov_onlyInOther (.ref h4) v_stamp (.ref h5) (.ref h6) (.ref h7) v_pairCount ov_parted))] t.heap ∧ va_D A [(h0, .inr (11, oX8 (.ref h1) (.ref h2) (.ref h3) ov_onlyInOne ov_onlyInOther (.ref h4) v_stamp (.ref h5) (.ref h6) (.ref h7) v_pairCount ov_parted))]) A) ([.ref h0, .int p1, .int p2, .int p3]).toArray s 0 0 A) (F0 m 0 ls [])
  rw [← hQQ]
  unfold w_X8_look at w
  refine lv_aload_n hx hb dX8_look_0 rfl (lv_at hl 0 rfl) ?_
  refine lv_dup hx hb dX8_look_1 rfl ?_
  refine va_get (D := (dC, dI)) (ci := 11) (v := .int (bz v_onlyInOne)) (C := RX8) (T := TX8) (N := 12) hx hb ht inX8 hown hK hP 0 rfl rfl 3 (by decide) (ht _ tw_763) (fun _ h9 => h9) rfl dX8_look_2 ?_
  refine lv_iload_n hx hb dX8_look_5 rfl (lv_at hl 2 rfl) ?_
  have k_18 : ∀ (s0_18 : Int32) (s1_18 : Int32) (v_onlyInOne_18 : Bool) (v_onlyInOther_18 : Bool) (v_parted_18 : Int32), ∀ (H_b18 : Heap) (locs_b18 : List Loc) (ls_b18 : Array Slot), w_X8_look_18 p1 p2 p3 Q s0_18 s1_18 v_onlyInOne_18 v_onlyInOther_18 v_parted_18 → va_P (dC, dI) vwCl [(h0, .inr (11, oX8 (.ref h1) (.ref h2) (.ref h3) v_onlyInOne_18 v_onlyInOther_18 (.ref h4) v_stamp (.ref h5) (.ref h6) (.ref h7) v_pairCount v_parted_18))] H_b18 → va_D A [(h0, .inr (11, oX8 (.ref h1) (.ref h2) (.ref h3) v_onlyInOne_18 v_onlyInOther_18 (.ref h4) v_stamp (.ref h5) (.ref h6) (.ref h7) v_pairCount v_parted_18))] → va_S A s.heap H_b18 locs_b18 → lv_has ls_b18 4 [(0, .ref h0), (1, .int p1), (2, .int p2), (3, .int p3)] → W p l e ({ frames := 0, cells := 0, slots := 0, locals := 0 } : Room) s m ([.ref h0, .int p1, .int p2, .int p3]).toArray below meth c H_b18 locs_b18 0 0 QQ (F0 m 18 ls_b18 [.int s0_18, .int s1_18, .ref h0]) := by
    intro s0_18 s1_18 v_onlyInOne_18 v_onlyInOther_18 v_parted_18 H_b18 locs_b18 ls_b18 w_b18 hP_b18 hD_b18 hS_b18 hl_b18
    unfold w_X8_look_18 at w_b18
    refine lv_ior hx hb dX8_look_18 ?_
    refine lv_topi (fun x_1 ex_1 => ?_)
    have ex_1 : x_1 = s1_18 ||| s0_18 := ex_1
    obtain ⟨b_2, eb_2⟩ := bz_ex (w_b18 x_1 ex_1).1
    refine W.eq (g2 := F0 m 19 ls_b18 [.int (bz b_2), .ref h0]) (by rw [eb_2]) ?_
    refine va_put (D := (dC, dI)) (ci := 11) (v := .int (bz b_2)) (ty := .boolean) (C := RX8) (T := TX8) (N := 12) hx hb ht inX8 tyX8 tyX8_ok nmX8 hown hK hP_b18 hD_b18 hS_b18 0 rfl rfl 3 (by decide) (ht _ tw_763) (fun _ h9 => h9) rfl (by decide +kernel) (bz_nar _) (bz_fit _) (Nat.le_of_ble_eq_true rfl) dX8_look_19 (fun H_2 locs_2 hP_2 hD_2 hS_2 => ?_)
    have hP_2 : va_P (dC, dI) vwCl [(h0, .inr (11, oX8 (.ref h1) (.ref h2) (.ref h3) b_2 v_onlyInOther_18 (.ref h4) v_stamp (.ref h5) (.ref h6) (.ref h7) v_pairCount v_parted_18))] H_2 := hP_2
    have hD_2 : va_D A [(h0, .inr (11, oX8 (.ref h1) (.ref h2) (.ref h3) b_2 v_onlyInOther_18 (.ref h4) v_stamp (.ref h5) (.ref h6) (.ref h7) v_pairCount v_parted_18))] := hD_2
    refine lv_aload_n hx hb dX8_look_22 rfl (lv_at hl_b18 0 rfl) ?_
    refine lv_dup hx hb dX8_look_23 rfl ?_
    refine va_get (D := (dC, dI)) (ci := 11) (v := .int (bz v_onlyInOther_18)) (C := RX8) (T := TX8) (N := 12) hx hb ht inX8 hown hK hP_2 0 rfl rfl 4 (by decide) (ht _ tw_765) (fun _ h9 => h9) rfl dX8_look_24 ?_
    refine lv_iload_n hx hb dX8_look_27 rfl (lv_at hl_b18 3 rfl) ?_
    have k_40 : ∀ (s0_40 : Int32) (s1_40 : Int32) (v_onlyInOne_40 : Bool) (v_onlyInOther_40 : Bool) (v_parted_40 : Int32), ∀ (H_b40 : Heap) (locs_b40 : List Loc) (ls_b40 : Array Slot), w_X8_look_40 p1 p2 p3 Q s0_40 s1_40 v_onlyInOne_40 v_onlyInOther_40 v_parted_40 → va_P (dC, dI) vwCl [(h0, .inr (11, oX8 (.ref h1) (.ref h2) (.ref h3) v_onlyInOne_40 v_onlyInOther_40 (.ref h4) v_stamp (.ref h5) (.ref h6) (.ref h7) v_pairCount v_parted_40))] H_b40 → va_D A [(h0, .inr (11, oX8 (.ref h1) (.ref h2) (.ref h3) v_onlyInOne_40 v_onlyInOther_40 (.ref h4) v_stamp (.ref h5) (.ref h6) (.ref h7) v_pairCount v_parted_40))] → va_S A s.heap H_b40 locs_b40 → lv_has ls_b40 4 [(0, .ref h0), (1, .int p1), (2, .int p2), (3, .int p3)] → W p l e ({ frames := 0, cells := 0, slots := 0, locals := 0 } : Room) s m ([.ref h0, .int p1, .int p2, .int p3]).toArray below meth c H_b40 locs_b40 0 0 QQ (F0 m 40 ls_b40 [.int s0_40, .int s1_40, .ref h0]) := by
      intro s0_40 s1_40 v_onlyInOne_40 v_onlyInOther_40 v_parted_40 H_b40 locs_b40 ls_b40 w_b40 hP_b40 hD_b40 hS_b40 hl_b40
      unfold w_X8_look_40 at w_b40
      refine lv_ior hx hb dX8_look_40 ?_
      refine lv_topi (fun x_3 ex_3 => ?_)
      have ex_3 : x_3 = s1_40 ||| s0_40 := ex_3
      obtain ⟨b_4, eb_4⟩ := bz_ex (w_b40 x_3 ex_3).1
      refine W.eq (g2 := F0 m 41 ls_b40 [.int (bz b_4), .ref h0]) (by rw [eb_4]) ?_
      refine va_put (D := (dC, dI)) (ci := 11) (v := .int (bz b_4)) (ty := .boolean) (C := RX8) (T := TX8) (N := 12) hx hb ht inX8 tyX8 tyX8_ok nmX8 hown hK hP_b40 hD_b40 hS_b40 0 rfl rfl 4 (by decide) (ht _ tw_765) (fun _ h9 => h9) rfl (by decide +kernel) (bz_nar _) (bz_fit _) (Nat.le_of_ble_eq_true rfl) dX8_look_41 (fun H_4 locs_4 hP_4 hD_4 hS_4 => ?_)
      have hP_4 : va_P (dC, dI) vwCl [(h0, .inr (11, oX8 (.ref h1) (.ref h2) (.ref h3) v_onlyInOne_40 b_4 (.ref h4) v_stamp (.ref h5) (.ref h6) (.ref h7) v_pairCount v_parted_40))] H_4 := hP_4
      have hD_4 : va_D A [(h0, .inr (11, oX8 (.ref h1) (.ref h2) (.ref h3) v_onlyInOne_40 b_4 (.ref h4) v_stamp (.ref h5) (.ref h6) (.ref h7) v_pairCount v_parted_40))] := hD_4
      refine lv_iload_n hx hb dX8_look_44 rfl (lv_at hl_b40 2 rfl) ?_
      refine lv_iload_n hx hb dX8_look_45 rfl (lv_at hl_b40 3 rfl) ?_
      have k_62 : ∀ (v_onlyInOne_62 : Bool) (v_onlyInOther_62 : Bool) (v_parted_62 : Int32), ∀ (H_b62 : Heap) (locs_b62 : List Loc) (ls_b62 : Array Slot), w_X8_look_62 Q v_onlyInOne_62 v_onlyInOther_62 v_parted_62 → va_P (dC, dI) vwCl [(h0, .inr (11, oX8 (.ref h1) (.ref h2) (.ref h3) v_onlyInOne_62 v_onlyInOther_62 (.ref h4) v_stamp (.ref h5) (.ref h6) (.ref h7) v_pairCount v_parted_62))] H_b62 → va_D A [(h0, .inr (11, oX8 (.ref h1) (.ref h2) (.ref h3) v_onlyInOne_62 v_onlyInOther_62 (.ref h4) v_stamp (.ref h5) (.ref h6) (.ref h7) v_pairCount v_parted_62))] → va_S A s.heap H_b62 locs_b62 → lv_has ls_b62 4 [] → W p l e ({ frames := 0, cells := 0, slots := 0, locals := 0 } : Room) s m ([.ref h0, .int p1, .int p2, .int p3]).toArray below meth c H_b62 locs_b62 0 0 QQ (F0 m 62 ls_b62 []) := by
        intro v_onlyInOne_62 v_onlyInOther_62 v_parted_62 H_b62 locs_b62 ls_b62 w_b62 hP_b62 hD_b62 hS_b62 hl_b62
        unfold w_X8_look_62 at w_b62
        rw [hQQ]
        exact W.vret hx hb hr (fun t9 ht9 hW9 => ⟨⟨0, rfl, rfl, ⟨v_onlyInOne_62, v_onlyInOther_62, v_parted_62, w_b62, by rw [ht9]; exact hP_b62, hD_b62⟩⟩, hS_b62.F ht9⟩) hS_b62.2.2 dX8_look_62
      refine lv_icmp_eq (tgt := 62) hx hb dX8_look_46 (by decide) (fun c_5 => ?_) (fun c_5 => ?_)
      · exact k_62 v_onlyInOne_40 b_4 v_parted_40 _ _ _ ((((w_b40 x_3 ex_3).2) b_4 eb_4).1 c_5) hP_4 hD_4 hS_4 (lv_sub hl_b40 [] rfl)
      · refine lv_aload_n hx hb dX8_look_49 rfl (lv_at hl_b40 0 rfl) ?_
        refine va_get (D := (dC, dI)) (ci := 11) (v := .int v_parted_40) (C := RX8) (T := TX8) (N := 12) hx hb ht inX8 hown hK hP_4 0 rfl rfl 11 (by decide) (ht _ tw_773) (fun _ h9 => h9) rfl dX8_look_50 ?_
        refine lv_iconst (v := (-1)) hx hb dX8_look_53 (by decide) ?_
        refine lv_icmp_ne (tgt := 62) hx hb dX8_look_54 (by decide) (fun c_6 => ?_) (fun c_6 => ?_)
        · have w_7 := ((((w_b40 x_3 ex_3).2) b_4 eb_4).2 c_5).1 c_6
          exact k_62 v_onlyInOne_40 b_4 v_parted_40 _ _ _ w_7 hP_4 hD_4 hS_4 (lv_sub hl_b40 [] rfl)
        · refine lv_aload_n hx hb dX8_look_57 rfl (lv_at hl_b40 0 rfl) ?_
          refine lv_iload_n hx hb dX8_look_58 rfl (lv_at hl_b40 1 rfl) ?_
          refine va_put (D := (dC, dI)) (ci := 11) (v := .int p1) (ty := .int) (C := RX8) (T := TX8) (N := 12) hx hb ht inX8 tyX8 tyX8_ok nmX8 hown hK hP_4 hD_4 hS_4 0 rfl rfl 11 (by decide) (ht _ tw_773) (fun _ h9 => h9) rfl (by decide +kernel) rfl rfl (Nat.le_of_ble_eq_true rfl) dX8_look_59 (fun H_8 locs_8 hP_8 hD_8 hS_8 => ?_)
          have hP_8 : va_P (dC, dI) vwCl [(h0, .inr (11, oX8 (.ref h1) (.ref h2) (.ref h3) v_onlyInOne_40 b_4 (.ref h4) v_stamp (.ref h5) (.ref h6) (.ref h7) v_pairCount p1))] H_8 := hP_8
          have hD_8 : va_D A [(h0, .inr (11, oX8 (.ref h1) (.ref h2) (.ref h3) v_onlyInOne_40 b_4 (.ref h4) v_stamp (.ref h5) (.ref h6) (.ref h7) v_pairCount p1))] := hD_8
          have w_9 := ((((w_b40 x_3 ex_3).2) b_4 eb_4).2 c_5).2 c_6
          exact k_62 v_onlyInOne_40 b_4 p1 _ _ _ w_9 hP_8 hD_8 hS_8 (lv_sub hl_b40 [] rfl)
    have k_39 : ∀ (s0_39 : Int32) (v_onlyInOne_39 : Bool) (v_onlyInOther_39 : Bool) (v_parted_39 : Int32), ∀ (H_b39 : Heap) (locs_b39 : List Loc) (ls_b39 : Array Slot), w_X8_look_39 p1 p2 p3 Q s0_39 v_onlyInOne_39 v_onlyInOther_39 v_parted_39 → va_P (dC, dI) vwCl [(h0, .inr (11, oX8 (.ref h1) (.ref h2) (.ref h3) v_onlyInOne_39 v_onlyInOther_39 (.ref h4) v_stamp (.ref h5) (.ref h6) (.ref h7) v_pairCount v_parted_39))] H_b39 → va_D A [(h0, .inr (11, oX8 (.ref h1) (.ref h2) (.ref h3) v_onlyInOne_39 v_onlyInOther_39 (.ref h4) v_stamp (.ref h5) (.ref h6) (.ref h7) v_pairCount v_parted_39))] → va_S A s.heap H_b39 locs_b39 → lv_has ls_b39 4 [(0, .ref h0), (1, .int p1), (2, .int p2), (3, .int p3)] → W p l e ({ frames := 0, cells := 0, slots := 0, locals := 0 } : Room) s m ([.ref h0, .int p1, .int p2, .int p3]).toArray below meth c H_b39 locs_b39 0 0 QQ (F0 m 39 ls_b39 [.int s0_39, .ref h0]) := by
      intro s0_39 v_onlyInOne_39 v_onlyInOther_39 v_parted_39 H_b39 locs_b39 ls_b39 w_b39 hP_b39 hD_b39 hS_b39 hl_b39
      unfold w_X8_look_39 at w_b39
      refine lv_iconst (v := 0) hx hb dX8_look_39 (by decide) ?_
      exact k_40 0 s0_39 v_onlyInOne_39 v_onlyInOther_39 v_parted_39 _ _ _ w_b39 hP_b39 hD_b39 hS_b39 (lv_sub hl_b39 [0, 1, 2, 3] rfl)
    refine lv_if_eq (tgt := 39) hx hb dX8_look_28 (by decide) (fun c_10 => ?_) (fun c_10 => ?_)
    · exact k_39 (bz v_onlyInOther_18) b_2 v_onlyInOther_18 v_parted_18 _ _ _ ((((w_b18 x_1 ex_1).2) b_2 eb_2).1 c_10) hP_2 hD_2 hS_2 (lv_sub hl_b18 [0, 1, 2, 3] rfl)
    · refine lv_iload_n hx hb dX8_look_31 rfl (lv_at hl_b18 2 rfl) ?_
      refine lv_if_ne (tgt := 39) hx hb dX8_look_32 (by decide) (fun c_11 => ?_) (fun c_11 => ?_)
      · have w_12 := ((((w_b18 x_1 ex_1).2) b_2 eb_2).2 c_10).1 c_11
        exact k_39 (bz v_onlyInOther_18) b_2 v_onlyInOther_18 v_parted_18 _ _ _ w_12 hP_2 hD_2 hS_2 (lv_sub hl_b18 [0, 1, 2, 3] rfl)
      · refine lv_iconst (v := 1) hx hb dX8_look_35 (by decide) ?_
        refine lv_goto (tgt := 40) hx hb dX8_look_36 (by decide) ?_
        have w_13 := ((((w_b18 x_1 ex_1).2) b_2 eb_2).2 c_10).2 c_11
        exact k_40 1 (bz v_onlyInOther_18) b_2 v_onlyInOther_18 v_parted_18 _ _ _ w_13 hP_2 hD_2 hS_2 (lv_sub hl_b18 [0, 1, 2, 3] rfl)
  have k_17 : ∀ (s0_17 : Int32) (v_onlyInOne_17 : Bool) (v_onlyInOther_17 : Bool) (v_parted_17 : Int32), ∀ (H_b17 : Heap) (locs_b17 : List Loc) (ls_b17 : Array Slot), w_X8_look_17 p1 p2 p3 Q s0_17 v_onlyInOne_17 v_onlyInOther_17 v_parted_17 → va_P (dC, dI) vwCl [(h0, .inr (11, oX8 (.ref h1) (.ref h2) (.ref h3) v_onlyInOne_17 v_onlyInOther_17 (.ref h4) v_stamp (.ref h5) (.ref h6) (.ref h7) v_pairCount v_parted_17))] H_b17 → va_D A [(h0, .inr (11, oX8 (.ref h1) (.ref h2) (.ref h3) v_onlyInOne_17 v_onlyInOther_17 (.ref h4) v_stamp (.ref h5) (.ref h6) (.ref h7) v_pairCount v_parted_17))] → va_S A s.heap H_b17 locs_b17 → lv_has ls_b17 4 [(0, .ref h0), (1, .int p1), (2, .int p2), (3, .int p3)] → W p l e ({ frames := 0, cells := 0, slots := 0, locals := 0 } : Room) s m ([.ref h0, .int p1, .int p2, .int p3]).toArray below meth c H_b17 locs_b17 0 0 QQ (F0 m 17 ls_b17 [.int s0_17, .ref h0]) := by
    intro s0_17 v_onlyInOne_17 v_onlyInOther_17 v_parted_17 H_b17 locs_b17 ls_b17 w_b17 hP_b17 hD_b17 hS_b17 hl_b17
    unfold w_X8_look_17 at w_b17
    refine lv_iconst (v := 0) hx hb dX8_look_17 (by decide) ?_
    exact k_18 0 s0_17 v_onlyInOne_17 v_onlyInOther_17 v_parted_17 _ _ _ w_b17 hP_b17 hD_b17 hS_b17 (lv_sub hl_b17 [0, 1, 2, 3] rfl)
  refine lv_if_eq (tgt := 17) hx hb dX8_look_6 (by decide) (fun c_14 => ?_) (fun c_14 => ?_)
  · exact k_17 (bz v_onlyInOne) v_onlyInOne v_onlyInOther v_parted _ _ _ (w.1 c_14) hP hD hS (lv_sub hl [0, 1, 2, 3] rfl)
  · refine lv_iload_n hx hb dX8_look_9 rfl (lv_at hl 3 rfl) ?_
    refine lv_if_ne (tgt := 17) hx hb dX8_look_10 (by decide) (fun c_15 => ?_) (fun c_15 => ?_)
    · exact k_17 (bz v_onlyInOne) v_onlyInOne v_onlyInOther v_parted _ _ _ ((w.2 c_14).1 c_15) hP hD hS (lv_sub hl [0, 1, 2, 3] rfl)
    · refine lv_iconst (v := 1) hx hb dX8_look_13 (by decide) ?_
      refine lv_goto (tgt := 18) hx hb dX8_look_14 (by decide) ?_
      exact k_18 1 (bz v_onlyInOne) v_onlyInOne v_onlyInOther v_parted _ _ _ ((w.2 c_14).2 c_15) hP hD hS (lv_sub hl [0, 1, 2, 3] rfl)
def w_X8_meet_34 (Q : Int32 → (Nat → Int32) → (Nat → Int32) → (Nat → Int32) → (Nat → Int32) → Prop) (v_pairCount_34 : Int32) (v_met_34 : Nat → Int32) (v_pairs_34 : Nat → Int32) (v_cameFrom_34 : Nat → Int32) (v_cameBy_34 : Nat → Int32) : Prop :=
  Q  v_pairCount_34 v_met_34 v_pairs_34 v_cameFrom_34 v_cameBy_34
def w_X8_meet (p1 : Int32) (p2 : Int32) (p3 : Int32) (v_stamp : Int32) (v_pairCount : Int32) (v_met : Nat → Int32) (v_pairs : Nat → Int32) (v_cameFrom : Nat → Int32) (v_cameBy : Nat → Int32) (Q : Int32 → (Nat → Int32) → (Nat → Int32) → (Nat → Int32) → (Nat → Int32) → Prop) : Prop :=
  ((p1 < 0) → w_X8_meet_34 Q v_pairCount v_met v_pairs v_cameFrom v_cameBy) ∧ ((¬ p1 < 0) → ((3600 ≤ p1) → w_X8_meet_34 Q v_pairCount v_met v_pairs v_cameFrom v_cameBy) ∧ ((¬ 3600 ≤ p1) → vp_in p1 3600 ∧ ∀ x_3 : Int32, x_3 = v_met p1.toNatClampNeg → ((x_3 = v_stamp) → w_X8_meet_34 Q v_pairCount v_met v_pairs v_cameFrom v_cameBy) ∧ ((¬ x_3 = v_stamp) → ((v_pairCount < 3600) → vp_in p1 3600 ∧ ∀ g_7 : Nat → Int32, g_7 = upd v_met p1.toNatClampNeg v_stamp → vp_in v_pairCount 3600 ∧ ∀ g_8 : Nat → Int32, g_8 = upd v_pairs v_pairCount.toNatClampNeg p1 → vp_in v_pairCount 3600 ∧ ∀ g_9 : Nat → Int32, g_9 = upd v_cameFrom v_pairCount.toNatClampNeg p2 → vp_in v_pairCount 3600 ∧ ∀ g_11 : Nat → Int32, g_11 = upd v_cameBy v_pairCount.toNatClampNeg p3 → ∀ x_12 : Int32, x_12 = v_pairCount + (1 : Int32) → Q  x_12 g_7 g_8 g_9 g_11) ∧ ((¬ v_pairCount < 3600) → w_X8_meet_34 Q v_pairCount v_met v_pairs v_cameFrom v_cameBy))))
set_option maxHeartbeats 4000000 in
set_option maxRecDepth 100000 in
theorem mt_X8_meet (l : Launch) (dC : Nat → ClassId) (dI : Nat → Nat → Nat) (h0 h1 h2 h3 h4 h5 h6 h7 : Nat) (k0 k1 k2 k3 : ClassId) (p1 : Int32) (p2 : Int32) (p3 : Int32) (v_onlyInOne : Bool) (v_onlyInOther : Bool) (v_stamp : Int32) (v_pairCount : Int32) (v_parted : Int32) (v_met : Nat → Int32) (v_pairs : Nat → Int32) (v_cameFrom : Nat → Int32) (v_cameBy : Nat → Int32) (Q : Int32 → (Nat → Int32) → (Nat → Int32) → (Nat → Int32) → (Nat → Int32) → Prop) (w : w_X8_meet p1 p2 p3 v_stamp v_pairCount v_met v_pairs v_cameFrom v_cameBy Q) (sz : Nat) : Met l yX8_meet (WS yX8_meet cX8_meet 4 none) ({ frames := 0, cells := 0, slots := 0, locals := 0 } : Room) (va_Pc [.ref h0, .int p1, .int p2, .int p3] (fun U => U.heap.size = sz ∧ va_P (dC, dI) vwCl [(h0, .inr (11, oX8 (.ref h5) (.ref h6) (.ref h7) v_onlyInOne v_onlyInOther (.ref h1) v_stamp (.ref h2) (.ref h3) (.ref h4) v_pairCount v_parted)), (h1, .inl (k0, 3600, .inl v_met)), (h2, .inl (k1, 3600, .inl v_pairs)), (h3, .inl (k2, 3600, .inl v_cameFrom)), (h4, .inl (k3, 3600, .inl v_cameBy))] U.heap ∧ va_K (dC, dI) vwCl [(k0, .int), (k1, .int), (k2, .int), (k3, .int)] U ∧ va_D (fun _ => True) [(h0, .inr (11, oX8 (.ref h5) (.ref h6) (.ref h7) v_onlyInOne v_onlyInOther (.ref h1) v_stamp (.ref h2) (.ref h3) (.ref h4) v_pairCount v_parted)), (h1, .inl (k0, 3600, .inl v_met)), (h2, .inl (k1, 3600, .inl v_pairs)), (h3, .inl (k2, 3600, .inl v_cameFrom)), (h4, .inl (k3, 3600, .inl v_cameBy))])) (va_Qv (fun (u : Nat) => u = 0) (fun (_ : Nat) (t : State) => ∃ (ov_pairCount : Int32), ∃ (ov_met : Nat → Int32), ∃ (ov_pairs : Nat → Int32), ∃ (ov_cameFrom : Nat → Int32), ∃ (ov_cameBy : Nat → Int32), (Q ov_pairCount ov_met ov_pairs ov_cameFrom ov_cameBy) ∧ va_P (dC, dI) vwCl [(h0, .inr (11, oX8 (.ref h5) (.ref h6) (.ref h7) v_onlyInOne v_onlyInOther (.ref h1) v_stamp (.ref h2) (.ref h3) (.ref h4) ov_pairCount v_parted)), (h1, .inl (k0, 3600, .inl ov_met)), (h2, .inl (k1, 3600, .inl ov_pairs)), (h3, .inl (k2, 3600, .inl ov_cameFrom)), (h4, .inl (k3, 3600, .inl ov_cameBy))] t.heap ∧ va_D (va_A [(h0, .inr (11, oX8 (.ref h5) (.ref h6) (.ref h7) v_onlyInOne v_onlyInOther (.ref h1) v_stamp (.ref h2) (.ref h3) (.ref h4) v_pairCount v_parted)), (h1, .inl (k0, 3600, .inl v_met)), (h2, .inl (k1, 3600, .inl v_pairs)), (h3, .inl (k2, 3600, .inl v_cameFrom)), (h4, .inl (k3, 3600, .inl v_cameBy))] sz) [(h0, .inr (11, oX8 (.ref h5) (.ref h6) (.ref h7) v_onlyInOne v_onlyInOther (.ref h1) v_stamp (.ref h2) (.ref h3) (.ref h4) ov_pairCount v_parted)), (h1, .inl (k0, 3600, .inl ov_met)), (h2, .inl (k1, 3600, .inl ov_pairs)), (h3, .inl (k2, 3600, .inl ov_cameFrom)), (h4, .inl (k3, 3600, .inl ov_cameBy))]) (va_A [(h0, .inr (11, oX8 (.ref h5) (.ref h6) (.ref h7) v_onlyInOne v_onlyInOther (.ref h1) v_stamp (.ref h2) (.ref h3) (.ref h4) v_pairCount v_parted)), (h1, .inl (k0, 3600, .inl v_met)), (h2, .inl (k1, 3600, .inl v_pairs)), (h3, .inl (k2, 3600, .inl v_cameFrom)), (h4, .inl (k3, 3600, .inl v_cameBy))] sz)) 0 0 (va_A [(h0, .inr (11, oX8 (.ref h5) (.ref h6) (.ref h7) v_onlyInOne v_onlyInOther (.ref h1) v_stamp (.ref h2) (.ref h3) (.ref h4) v_pairCount v_parted)), (h1, .inl (k0, 3600, .inl v_met)), (h2, .inl (k1, 3600, .inl v_pairs)), (h3, .inl (k2, 3600, .inl v_cameFrom)), (h4, .inl (k3, 3600, .inl v_cameBy))] sz) := by
  refine Met.ofW (cc := cX8_meet) (maxL := 4) (ret := none) (by decide) rfl ?_
  intro p e s m args below meth c s₁ B hml hv
  obtain ⟨rfl, hsz, hP, hK, hD0⟩ := hv
  have hx := B.exec
  have hb := B.bytes
  have hr := B.returns
  have hts := atoms_spec (ws := WS yX8_meet cX8_meet 4 none) B.pre
  have ht : ∀ w ∈ TW, w.before _ s = true := fun w h => hts w (List.mem_cons_of_mem _ h)
  have hown : s.vm.findClass "PatternWorkshop$Sets" = some m.cls := findClass_of_methodNamed B.named
  have hlocks := B.notSynchronized
  subst hsz
  have hD := hD0.self (sz := s.heap.size)
  generalize hAe : va_A [(h0, .inr (11, oX8 (.ref h5) (.ref h6) (.ref h7) v_onlyInOne v_onlyInOther (.ref h1) v_stamp (.ref h2) (.ref h3) (.ref h4) v_pairCount v_parted)), (h1, .inl (k0, 3600, .inl v_met)), (h2, .inl (k1, 3600, .inl v_pairs)), (h3, .inl (k2, 3600, .inl v_cameFrom)), (h4, .inl (k3, 3600, .inl v_cameBy))] s.heap.size = A at hD ⊢
  have hA : ∀ q : Nat, s.heap.size ≤ q → A q := fun q h => by rw [← hAe]; exact Or.inr h
  have hS : va_S A s.heap s.heap [] := va_S.rf
  have hP : va_P (dC, dI) vwCl [(h0, .inr (11, oX8 (.ref h5) (.ref h6) (.ref h7) v_onlyInOne v_onlyInOther (.ref h1) v_stamp (.ref h2) (.ref h3) (.ref h4) v_pairCount v_parted)), (h1, .inl (k0, 3600, .inl v_met)), (h2, .inl (k1, 3600, .inl v_pairs)), (h3, .inl (k2, 3600, .inl v_cameFrom)), (h4, .inl (k3, 3600, .inl v_cameBy))] s.heap := hP
  have hl := lv_entry ([.ref h0, .int p1, .int p2, .int p3]) (n := 4) (Nat.le_of_ble_eq_true rfl)
  rw [lg_entry_eq]
  generalize (lg_sl ([.ref h0, .int p1, .int p2, .int p3]) ++ List.replicate (4 - (lg_sl ([.ref h0, .int p1, .int p2, .int p3])).length) Slot.unset).toArray = ls at hl ⊢
  have hl : lv_has ls 4 [(0, .ref h0), (1, .int p1), (2, .int p2), (3, .int p3)] := hl
  clear hD0
  obtain ⟨QQ, hQQ⟩ : ∃ QQ, QQ = MQ below (va_Qv (fun (u : Nat) => u = 0) (fun (_ : Nat) (t : State) => ∃ (ov_pairCount : Int32), ∃ (ov_met : Nat → Int32), ∃ (ov_pairs : Nat → Int32), ∃ (ov_cameFrom : Nat → Int32), ∃ (ov_cameBy : Nat → Int32), (Q ov_pairCount ov_met ov_pairs ov_cameFrom ov_cameBy) ∧ va_P (dC, dI) vwCl [(h0, .inr (11, oX8 (.ref h5) (.ref h6) (.ref h7) v_onlyInOne v_onlyInOther (.ref h1) v_stamp (.ref h2) (.ref h3) (.ref h4) ov_pairCount v_parted)), (h1, .inl (k0, 3600, .inl ov_met)), (h2, .inl (k1, 3600, .inl ov_pairs)), (h3, .inl (k2, 3600, .inl ov_cameFrom)), (h4, .inl (k3, 3600, .inl ov_cameBy))] t.heap ∧ va_D A [(h0, .inr (11, oX8 (.ref h5) (.ref h6) (.ref h7) v_onlyInOne v_onlyInOther (.ref h1) v_stamp (.ref h2) (.ref h3) (.ref h4) ov_pairCount v_parted)), (h1, .inl (k0, 3600, .inl ov_met)), (h2, .inl (k1, 3600, .inl ov_pairs)), (h3, .inl (k2, 3600, .inl ov_cameFrom)), (h4, .inl (k3, 3600, .inl ov_cameBy))]) A) ([.ref h0, .int p1, .int p2, .int p3]).toArray s 0 0 A := ⟨_, rfl⟩
  show W p l e ({ frames := 0, cells := 0, slots := 0, locals := 0 } : Room) s m ([.ref h0, .int p1, .int p2, .int p3]).toArray below meth c s.heap [] 0 0 (MQ below (va_Qv (fun (u : Nat) => u = 0) (fun (_ : Nat) (t : State) => ∃ (ov_pairCount : Int32), ∃ (ov_met : Nat → Int32), ∃ (ov_pairs : Nat → Int32), ∃ (ov_cameFrom : Nat → Int32), ∃ (ov_cameBy : Nat → Int32), (Q ov_pairCount ov_met ov_pairs ov_cameFrom ov_cameBy) ∧ va_P (dC, dI) vwCl [(h0, .inr (11, oX8 (.ref h5) (.ref h6) (.ref h7) v_onlyInOne v_onlyInOther (.ref h1) v_stamp (.ref h2) (.ref h3) (.ref h4) ov_pairCount v_parted)), (h1, .inl (k0, 3600, .inl ov_met)), (h2, .inl (k1, 3600, .inl ov_pairs)), (h3, .inl (k2, 3600, .inl ov_cameFrom)), (h4, .inl (k3, 3600, .inl ov_cameBy))] t.heap ∧ va_D A [(h0, .inr (11, oX8 (.ref h5) (.ref h6) (.ref h7) v_onlyInOne v_onlyInOther (.ref h1) v_stamp (.ref h2) (.ref h3) (.ref h4) ov_pairCount v_parted)), (h1, .inl (k0, 3600, .inl ov_met)), (h2, .inl (k1, 3600, .inl ov_pairs)), (h3, .inl (k2, 3600, .inl ov_cameFrom)), (h4, .inl (k3, 3600, .inl ov_cameBy))]) A) ([.ref h0, .int p1, .int p2, .int p3]).toArray s 0 0 A) (F0 m 0 ls [])
  rw [← hQQ]
  unfold w_X8_meet at w
  refine lv_iload_n hx hb dX8_meet_0 rfl (lv_at hl 1 rfl) ?_
  have k_34 : ∀ (v_pairCount_34 : Int32) (v_met_34 : Nat → Int32) (v_pairs_34 : Nat → Int32) (v_cameFrom_34 : Nat → Int32) (v_cameBy_34 : Nat → Int32), ∀ (H_b34 : Heap) (locs_b34 : List Loc) (ls_b34 : Array Slot), w_X8_meet_34 Q v_pairCount_34 v_met_34 v_pairs_34 v_cameFrom_34 v_cameBy_34 → va_P (dC, dI) vwCl [(h0, .inr (11, oX8 (.ref h5) (.ref h6) (.ref h7) v_onlyInOne v_onlyInOther (.ref h1) v_stamp (.ref h2) (.ref h3) (.ref h4) v_pairCount_34 v_parted)), (h1, .inl (k0, 3600, .inl v_met_34)), (h2, .inl (k1, 3600, .inl v_pairs_34)), (h3, .inl (k2, 3600, .inl v_cameFrom_34)), (h4, .inl (k3, 3600, .inl v_cameBy_34))] H_b34 → va_D A [(h0, .inr (11, oX8 (.ref h5) (.ref h6) (.ref h7) v_onlyInOne v_onlyInOther (.ref h1) v_stamp (.ref h2) (.ref h3) (.ref h4) v_pairCount_34 v_parted)), (h1, .inl (k0, 3600, .inl v_met_34)), (h2, .inl (k1, 3600, .inl v_pairs_34)), (h3, .inl (k2, 3600, .inl v_cameFrom_34)), (h4, .inl (k3, 3600, .inl v_cameBy_34))] → va_S A s.heap H_b34 locs_b34 → lv_has ls_b34 4 [] → W p l e ({ frames := 0, cells := 0, slots := 0, locals := 0 } : Room) s m ([.ref h0, .int p1, .int p2, .int p3]).toArray below meth c H_b34 locs_b34 0 0 QQ (F0 m 34 ls_b34 []) := by
    intro v_pairCount_34 v_met_34 v_pairs_34 v_cameFrom_34 v_cameBy_34 H_b34 locs_b34 ls_b34 w_b34 hP_b34 hD_b34 hS_b34 hl_b34
    unfold w_X8_meet_34 at w_b34
    rw [hQQ]
    exact W.vret hx hb hr (fun t9 ht9 hW9 => ⟨⟨0, rfl, rfl, ⟨v_pairCount_34, v_met_34, v_pairs_34, v_cameFrom_34, v_cameBy_34, w_b34, by rw [ht9]; exact hP_b34, hD_b34⟩⟩, hS_b34.F ht9⟩) hS_b34.2.2 dX8_meet_34
  refine lv_if_lt (tgt := 34) hx hb dX8_meet_1 (by decide) (fun c_1 => ?_) (fun c_1 => ?_)
  · exact k_34 v_pairCount v_met v_pairs v_cameFrom v_cameBy _ _ _ (w.1 c_1) hP hD hS (lv_sub hl [] rfl)
  · refine lv_iload_n hx hb dX8_meet_4 rfl (lv_at hl 1 rfl) ?_
    refine lv_sipush (v := 3600) hx hb dX8_meet_5 (by decide) ?_
    refine lv_icmp_ge (tgt := 34) hx hb dX8_meet_8 (by decide) (fun c_2 => ?_) (fun c_2 => ?_)
    · exact k_34 v_pairCount v_met v_pairs v_cameFrom v_cameBy _ _ _ ((w.2 c_1).1 c_2) hP hD hS (lv_sub hl [] rfl)
    · refine lv_aload_n hx hb dX8_meet_11 rfl (lv_at hl 0 rfl) ?_
      refine va_get (D := (dC, dI)) (ci := 11) (v := .ref h1) (C := RX8) (T := TX8) (N := 12) hx hb ht inX8 hown hK hP 0 rfl rfl 5 (by decide) (ht _ tw_767) (fun _ h9 => h9) rfl dX8_meet_12 ?_
      refine lv_iload_n hx hb dX8_meet_15 rfl (lv_at hl 1 rfl) ?_
      refine va_iald hx hb hK hP 1 0 rfl rfl (i := p1) ((w.2 c_1).2 c_2).1 dX8_meet_16 ?_
      refine lv_topi (fun x_3 ex_3 => ?_)
      have ex_3 : x_3 = v_met p1.toNatClampNeg := ex_3
      refine lv_aload_n hx hb dX8_meet_17 rfl (lv_at hl 0 rfl) ?_
      refine va_get (D := (dC, dI)) (ci := 11) (v := .int v_stamp) (C := RX8) (T := TX8) (N := 12) hx hb ht inX8 hown hK hP 0 rfl rfl 6 (by decide) (ht _ tw_768) (fun _ h9 => h9) rfl dX8_meet_18 ?_
      refine lv_icmp_eq (tgt := 34) hx hb dX8_meet_21 (by decide) (fun c_4 => ?_) (fun c_4 => ?_)
      · exact k_34 v_pairCount v_met v_pairs v_cameFrom v_cameBy _ _ _ (((((w.2 c_1).2 c_2).2) x_3 ex_3).1 c_4) hP hD hS (lv_sub hl [] rfl)
      · refine lv_aload_n hx hb dX8_meet_24 rfl (lv_at hl 0 rfl) ?_
        refine va_get (D := (dC, dI)) (ci := 11) (v := .int v_pairCount) (C := RX8) (T := TX8) (N := 12) hx hb ht inX8 hown hK hP 0 rfl rfl 10 (by decide) (ht _ tw_772) (fun _ h9 => h9) rfl dX8_meet_25 ?_
        refine lv_sipush (v := 3600) hx hb dX8_meet_28 (by decide) ?_
        refine lv_icmp_lt (tgt := 35) hx hb dX8_meet_31 (by decide) (fun c_5 => ?_) (fun c_5 => ?_)
        · refine lv_aload_n hx hb dX8_meet_35 rfl (lv_at hl 0 rfl) ?_
          refine va_get (D := (dC, dI)) (ci := 11) (v := .ref h1) (C := RX8) (T := TX8) (N := 12) hx hb ht inX8 hown hK hP 0 rfl rfl 5 (by decide) (ht _ tw_767) (fun _ h9 => h9) rfl dX8_meet_36 ?_
          refine lv_iload_n hx hb dX8_meet_39 rfl (lv_at hl 1 rfl) ?_
          refine lv_aload_n hx hb dX8_meet_40 rfl (lv_at hl 0 rfl) ?_
          refine va_get (D := (dC, dI)) (ci := 11) (v := .int v_stamp) (C := RX8) (T := TX8) (N := 12) hx hb ht inX8 hown hK hP 0 rfl rfl 6 (by decide) (ht _ tw_768) (fun _ h9 => h9) rfl dX8_meet_41 ?_
          have w_6 := (((((w.2 c_1).2 c_2).2) x_3 ex_3).2 c_4).1 c_5
          refine va_iast hx hb hK hP hD hS 1 0 rfl rfl (i := p1) w_6.1 dX8_meet_44 (fun H_7 locs_7 hP_7 hD_7 hS_7 => ?_)
          obtain ⟨g_7, hg_7⟩ : ∃ g : Nat → Int32, g = upd v_met p1.toNatClampNeg v_stamp := ⟨_, rfl⟩
          have hP_7 : va_P (dC, dI) vwCl [(h0, .inr (11, oX8 (.ref h5) (.ref h6) (.ref h7) v_onlyInOne v_onlyInOther (.ref h1) v_stamp (.ref h2) (.ref h3) (.ref h4) v_pairCount v_parted)), (h1, .inl (k0, 3600, .inl g_7)), (h2, .inl (k1, 3600, .inl v_pairs)), (h3, .inl (k2, 3600, .inl v_cameFrom)), (h4, .inl (k3, 3600, .inl v_cameBy))] H_7 := by rw [hg_7]; exact hP_7
          have hD_7 : va_D A [(h0, .inr (11, oX8 (.ref h5) (.ref h6) (.ref h7) v_onlyInOne v_onlyInOther (.ref h1) v_stamp (.ref h2) (.ref h3) (.ref h4) v_pairCount v_parted)), (h1, .inl (k0, 3600, .inl g_7)), (h2, .inl (k1, 3600, .inl v_pairs)), (h3, .inl (k2, 3600, .inl v_cameFrom)), (h4, .inl (k3, 3600, .inl v_cameBy))] := by rw [hg_7]; exact hD_7
          refine lv_aload_n hx hb dX8_meet_45 rfl (lv_at hl 0 rfl) ?_
          refine va_get (D := (dC, dI)) (ci := 11) (v := .ref h2) (C := RX8) (T := TX8) (N := 12) hx hb ht inX8 hown hK hP_7 0 rfl rfl 7 (by decide) (ht _ tw_769) (fun _ h9 => h9) rfl dX8_meet_46 ?_
          refine lv_aload_n hx hb dX8_meet_49 rfl (lv_at hl 0 rfl) ?_
          refine va_get (D := (dC, dI)) (ci := 11) (v := .int v_pairCount) (C := RX8) (T := TX8) (N := 12) hx hb ht inX8 hown hK hP_7 0 rfl rfl 10 (by decide) (ht _ tw_772) (fun _ h9 => h9) rfl dX8_meet_50 ?_
          refine lv_iload_n hx hb dX8_meet_53 rfl (lv_at hl 1 rfl) ?_
          refine va_iast hx hb hK hP_7 hD_7 hS_7 2 1 rfl rfl (i := v_pairCount) (w_6.2 g_7 hg_7).1 dX8_meet_54 (fun H_8 locs_8 hP_8 hD_8 hS_8 => ?_)
          obtain ⟨g_8, hg_8⟩ : ∃ g : Nat → Int32, g = upd v_pairs v_pairCount.toNatClampNeg p1 := ⟨_, rfl⟩
          have hP_8 : va_P (dC, dI) vwCl [(h0, .inr (11, oX8 (.ref h5) (.ref h6) (.ref h7) v_onlyInOne v_onlyInOther (.ref h1) v_stamp (.ref h2) (.ref h3) (.ref h4) v_pairCount v_parted)), (h1, .inl (k0, 3600, .inl g_7)), (h2, .inl (k1, 3600, .inl g_8)), (h3, .inl (k2, 3600, .inl v_cameFrom)), (h4, .inl (k3, 3600, .inl v_cameBy))] H_8 := by rw [hg_8]; exact hP_8
          have hD_8 : va_D A [(h0, .inr (11, oX8 (.ref h5) (.ref h6) (.ref h7) v_onlyInOne v_onlyInOther (.ref h1) v_stamp (.ref h2) (.ref h3) (.ref h4) v_pairCount v_parted)), (h1, .inl (k0, 3600, .inl g_7)), (h2, .inl (k1, 3600, .inl g_8)), (h3, .inl (k2, 3600, .inl v_cameFrom)), (h4, .inl (k3, 3600, .inl v_cameBy))] := by rw [hg_8]; exact hD_8
          refine lv_aload_n hx hb dX8_meet_55 rfl (lv_at hl 0 rfl) ?_
          refine va_get (D := (dC, dI)) (ci := 11) (v := .ref h3) (C := RX8) (T := TX8) (N := 12) hx hb ht inX8 hown hK hP_8 0 rfl rfl 8 (by decide) (ht _ tw_770) (fun _ h9 => h9) rfl dX8_meet_56 ?_
          refine lv_aload_n hx hb dX8_meet_59 rfl (lv_at hl 0 rfl) ?_
          refine va_get (D := (dC, dI)) (ci := 11) (v := .int v_pairCount) (C := RX8) (T := TX8) (N := 12) hx hb ht inX8 hown hK hP_8 0 rfl rfl 10 (by decide) (ht _ tw_772) (fun _ h9 => h9) rfl dX8_meet_60 ?_
          refine lv_iload_n hx hb dX8_meet_63 rfl (lv_at hl 2 rfl) ?_
          refine va_iast hx hb hK hP_8 hD_8 hS_8 3 2 rfl rfl (i := v_pairCount) (((w_6.2 g_7 hg_7).2) g_8 hg_8).1 dX8_meet_64 (fun H_9 locs_9 hP_9 hD_9 hS_9 => ?_)
          obtain ⟨g_9, hg_9⟩ : ∃ g : Nat → Int32, g = upd v_cameFrom v_pairCount.toNatClampNeg p2 := ⟨_, rfl⟩
          have hP_9 : va_P (dC, dI) vwCl [(h0, .inr (11, oX8 (.ref h5) (.ref h6) (.ref h7) v_onlyInOne v_onlyInOther (.ref h1) v_stamp (.ref h2) (.ref h3) (.ref h4) v_pairCount v_parted)), (h1, .inl (k0, 3600, .inl g_7)), (h2, .inl (k1, 3600, .inl g_8)), (h3, .inl (k2, 3600, .inl g_9)), (h4, .inl (k3, 3600, .inl v_cameBy))] H_9 := by rw [hg_9]; exact hP_9
          have hD_9 : va_D A [(h0, .inr (11, oX8 (.ref h5) (.ref h6) (.ref h7) v_onlyInOne v_onlyInOther (.ref h1) v_stamp (.ref h2) (.ref h3) (.ref h4) v_pairCount v_parted)), (h1, .inl (k0, 3600, .inl g_7)), (h2, .inl (k1, 3600, .inl g_8)), (h3, .inl (k2, 3600, .inl g_9)), (h4, .inl (k3, 3600, .inl v_cameBy))] := by rw [hg_9]; exact hD_9
          refine lv_aload_n hx hb dX8_meet_65 rfl (lv_at hl 0 rfl) ?_
          refine va_get (D := (dC, dI)) (ci := 11) (v := .ref h4) (C := RX8) (T := TX8) (N := 12) hx hb ht inX8 hown hK hP_9 0 rfl rfl 9 (by decide) (ht _ tw_771) (fun _ h9 => h9) rfl dX8_meet_66 ?_
          refine lv_aload_n hx hb dX8_meet_69 rfl (lv_at hl 0 rfl) ?_
          refine va_get (D := (dC, dI)) (ci := 11) (v := .int v_pairCount) (C := RX8) (T := TX8) (N := 12) hx hb ht inX8 hown hK hP_9 0 rfl rfl 10 (by decide) (ht _ tw_772) (fun _ h9 => h9) rfl dX8_meet_70 ?_
          refine lv_iload_n hx hb dX8_meet_73 rfl (lv_at hl 3 rfl) ?_
          have w_10 := ((((w_6.2 g_7 hg_7).2) g_8 hg_8).2) g_9 hg_9
          refine va_iast hx hb hK hP_9 hD_9 hS_9 4 3 rfl rfl (i := v_pairCount) w_10.1 dX8_meet_74 (fun H_11 locs_11 hP_11 hD_11 hS_11 => ?_)
          obtain ⟨g_11, hg_11⟩ : ∃ g : Nat → Int32, g = upd v_cameBy v_pairCount.toNatClampNeg p3 := ⟨_, rfl⟩
          have hP_11 : va_P (dC, dI) vwCl [(h0, .inr (11, oX8 (.ref h5) (.ref h6) (.ref h7) v_onlyInOne v_onlyInOther (.ref h1) v_stamp (.ref h2) (.ref h3) (.ref h4) v_pairCount v_parted)), (h1, .inl (k0, 3600, .inl g_7)), (h2, .inl (k1, 3600, .inl g_8)), (h3, .inl (k2, 3600, .inl g_9)), (h4, .inl (k3, 3600, .inl g_11))] H_11 := by rw [hg_11]; exact hP_11
          have hD_11 : va_D A [(h0, .inr (11, oX8 (.ref h5) (.ref h6) (.ref h7) v_onlyInOne v_onlyInOther (.ref h1) v_stamp (.ref h2) (.ref h3) (.ref h4) v_pairCount v_parted)), (h1, .inl (k0, 3600, .inl g_7)), (h2, .inl (k1, 3600, .inl g_8)), (h3, .inl (k2, 3600, .inl g_9)), (h4, .inl (k3, 3600, .inl g_11))] := by rw [hg_11]; exact hD_11
          refine lv_aload_n hx hb dX8_meet_75 rfl (lv_at hl 0 rfl) ?_
          refine lv_dup hx hb dX8_meet_76 rfl ?_
          refine va_get (D := (dC, dI)) (ci := 11) (v := .int v_pairCount) (C := RX8) (T := TX8) (N := 12) hx hb ht inX8 hown hK hP_11 0 rfl rfl 10 (by decide) (ht _ tw_772) (fun _ h9 => h9) rfl dX8_meet_77 ?_
          refine lv_iconst (v := 1) hx hb dX8_meet_80 (by decide) ?_
          refine lv_iadd hx hb dX8_meet_81 ?_
          refine lv_topi (fun x_12 ex_12 => ?_)
          have ex_12 : x_12 = v_pairCount + (1 : Int32) := ex_12
          refine va_put (D := (dC, dI)) (ci := 11) (v := .int x_12) (ty := .int) (C := RX8) (T := TX8) (N := 12) hx hb ht inX8 tyX8 tyX8_ok nmX8 hown hK hP_11 hD_11 hS_11 0 rfl rfl 10 (by decide) (ht _ tw_772) (fun _ h9 => h9) rfl (by decide +kernel) rfl rfl (Nat.le_of_ble_eq_true rfl) dX8_meet_82 (fun H_13 locs_13 hP_13 hD_13 hS_13 => ?_)
          have hP_13 : va_P (dC, dI) vwCl [(h0, .inr (11, oX8 (.ref h5) (.ref h6) (.ref h7) v_onlyInOne v_onlyInOther (.ref h1) v_stamp (.ref h2) (.ref h3) (.ref h4) x_12 v_parted)), (h1, .inl (k0, 3600, .inl g_7)), (h2, .inl (k1, 3600, .inl g_8)), (h3, .inl (k2, 3600, .inl g_9)), (h4, .inl (k3, 3600, .inl g_11))] H_13 := hP_13
          have hD_13 : va_D A [(h0, .inr (11, oX8 (.ref h5) (.ref h6) (.ref h7) v_onlyInOne v_onlyInOther (.ref h1) v_stamp (.ref h2) (.ref h3) (.ref h4) x_12 v_parted)), (h1, .inl (k0, 3600, .inl g_7)), (h2, .inl (k1, 3600, .inl g_8)), (h3, .inl (k2, 3600, .inl g_9)), (h4, .inl (k3, 3600, .inl g_11))] := hD_13
          rw [hQQ]
          exact W.vret hx hb hr (fun t9 ht9 hW9 => ⟨⟨0, rfl, rfl, ⟨x_12, g_7, g_8, g_9, g_11, w_10.2 g_11 hg_11 x_12 ex_12, by rw [ht9]; exact hP_13, hD_13⟩⟩, hS_13.F ht9⟩) hS_13.2.2 dX8_meet_85
        · have w_14 := (((((w.2 c_1).2 c_2).2) x_3 ex_3).2 c_4).2 c_5
          exact k_34 v_pairCount v_met v_pairs v_cameFrom v_cameBy _ _ _ w_14 hP hD hS (lv_sub hl [] rfl)
def w_X8_walkBoth_160 (Q : Bool → Bool → Int32 → Int32 → Int32 → (Nat → Int32) → (Nat → Int32) → (Nat → Int32) → (Nat → Int32) → Prop) (v_onlyInOne_160 : Bool) (v_onlyInOther_160 : Bool) (v_stamp_160 : Int32) (v_pairCount_160 : Int32) (v_parted_160 : Int32) (v_met_160 : Nat → Int32) (v_pairs_160 : Nat → Int32) (v_cameFrom_160 : Nat → Int32) (v_cameBy_160 : Nat → Int32) : Prop :=
  Q  v_onlyInOne_160 v_onlyInOther_160 v_stamp_160 v_pairCount_160 v_parted_160 v_met_160 v_pairs_160 v_cameFrom_160 v_cameBy_160
def w_X8_walkBoth_98B (v_alphabet_count : Int32) (v_alphabet_begins : Nat → Int32) (v_one_count : Int32) (v_one_width : Int32) (v_one_goes : Nat → Int32) (v_other_count : Int32) (v_other_width : Int32) (v_other_goes : Nat → Int32) (v_stamp_39 : Int32) (Q : Bool → Bool → Int32 → Int32 → Int32 → (Nat → Int32) → (Nat → Int32) → (Nat → Int32) → (Nat → Int32) → Prop) (K39 : Int32 → Bool → Bool → Int32 → Int32 → (Nat → Int32) → (Nat → Int32) → (Nat → Int32) → (Nat → Int32) → Prop) (K98 : Int32 → Int32 → (Nat → Int32) → (Nat → Int32) → (Nat → Int32) → (Nat → Int32) → Prop) (l1_98 : Int32) (l2_98 : Int32) (l3_98 : Int32) (v_onlyInOne_98 : Bool) (v_onlyInOther_98 : Bool) (v_parted_98 : Int32) (l4_98 : Int32) (v_pairCount_98 : Int32) (v_met_98 : Nat → Int32) (v_pairs_98 : Nat → Int32) (v_cameFrom_98 : Nat → Int32) (v_cameBy_98 : Nat → Int32) : Prop :=
  ((v_alphabet_count ≤ l4_98) → ∀ x_23 : Int32, x_23 = l1_98 + 1 → K39 x_23 v_onlyInOne_98 v_onlyInOther_98 v_pairCount_98 v_parted_98 v_met_98 v_pairs_98 v_cameFrom_98 v_cameBy_98) ∧ ((¬ v_alphabet_count ≤ l4_98) → w_X9_next l2_98 l4_98 v_one_count v_one_width v_one_goes (fun r_24 => ∀ x_25 : Int32, x_25 = r_24 * (60 : Int32) → w_X9_next l3_98 l4_98 v_other_count v_other_width v_other_goes (fun r_26 => ∀ x_27 : Int32, x_27 = x_25 + r_26 → w_X0_leastOf l4_98 v_alphabet_count v_alphabet_begins (fun r_28 => w_X8_meet x_27 l1_98 r_28 v_stamp_39 v_pairCount_98 v_met_98 v_pairs_98 v_cameFrom_98 v_cameBy_98 (fun r_29_0 r_29_1 r_29_2 r_29_3 r_29_4 => ∀ x_30 : Int32, x_30 = l4_98 + 1 → K98 x_30 r_29_0 r_29_1 r_29_2 r_29_3 r_29_4)))))
def w_X8_walkBoth_98 (v_alphabet_count : Int32) (v_alphabet_begins : Nat → Int32) (v_one_count : Int32) (v_one_width : Int32) (v_one_goes : Nat → Int32) (v_other_count : Int32) (v_other_width : Int32) (v_other_goes : Nat → Int32) (v_stamp_39 : Int32) (Q : Bool → Bool → Int32 → Int32 → Int32 → (Nat → Int32) → (Nat → Int32) → (Nat → Int32) → (Nat → Int32) → Prop) (K39 : Int32 → Bool → Bool → Int32 → Int32 → (Nat → Int32) → (Nat → Int32) → (Nat → Int32) → (Nat → Int32) → Prop) (l1_98 : Int32) (l2_98 : Int32) (l3_98 : Int32) (v_onlyInOne_98 : Bool) (v_onlyInOther_98 : Bool) (v_parted_98 : Int32) : Nat → Int32 → Int32 → (Nat → Int32) → (Nat → Int32) → (Nat → Int32) → (Nat → Int32) → Prop
  | 0, _, _, _, _, _, _ => False
  | n9 + 1, l4_98, v_pairCount_98, v_met_98, v_pairs_98, v_cameFrom_98, v_cameBy_98 => w_X8_walkBoth_98B v_alphabet_count v_alphabet_begins v_one_count v_one_width v_one_goes v_other_count v_other_width v_other_goes v_stamp_39 Q K39 (w_X8_walkBoth_98 v_alphabet_count v_alphabet_begins v_one_count v_one_width v_one_goes v_other_count v_other_width v_other_goes v_stamp_39 Q K39 l1_98 l2_98 l3_98 v_onlyInOne_98 v_onlyInOther_98 v_parted_98 n9) l1_98 l2_98 l3_98 v_onlyInOne_98 v_onlyInOther_98 v_parted_98 l4_98 v_pairCount_98 v_met_98 v_pairs_98 v_cameFrom_98 v_cameBy_98
def w_X8_walkBoth_39B (v_alphabet_count : Int32) (v_alphabet_begins : Nat → Int32) (v_one_count : Int32) (v_one_width : Int32) (v_one_ahead : Nat → Int64) (v_one_goes : Nat → Int32) (v_other_count : Int32) (v_other_width : Int32) (v_other_ahead : Nat → Int64) (v_other_goes : Nat → Int32) (Q : Bool → Bool → Int32 → Int32 → Int32 → (Nat → Int32) → (Nat → Int32) → (Nat → Int32) → (Nat → Int32) → Prop) (K39 : Int32 → Bool → Bool → Int32 → Int32 → (Nat → Int32) → (Nat → Int32) → (Nat → Int32) → (Nat → Int32) → Prop) (v_stamp_39 : Int32) (l1_39 : Int32) (v_onlyInOne_39 : Bool) (v_onlyInOther_39 : Bool) (v_pairCount_39 : Int32) (v_parted_39 : Int32) (v_met_39 : Nat → Int32) (v_pairs_39 : Nat → Int32) (v_cameFrom_39 : Nat → Int32) (v_cameBy_39 : Nat → Int32) : Prop :=
  ((v_pairCount_39 ≤ l1_39) → w_X8_walkBoth_160 Q v_onlyInOne_39 v_onlyInOther_39 v_stamp_39 v_pairCount_39 v_parted_39 v_met_39 v_pairs_39 v_cameFrom_39 v_cameBy_39) ∧ ((¬ v_pairCount_39 ≤ l1_39) → ((3600 ≤ l1_39) → w_X8_walkBoth_160 Q v_onlyInOne_39 v_onlyInOther_39 v_stamp_39 v_pairCount_39 v_parted_39 v_met_39 v_pairs_39 v_cameFrom_39 v_cameBy_39) ∧ ((¬ 3600 ≤ l1_39) → vp_in l1_39 3600 ∧ ∀ x_11 : Int32, x_11 = v_pairs_39 l1_39.toNatClampNeg → ∀ x_12 : Int32, x_12 = x_11 / (60 : Int32) → vp_in l1_39 3600 ∧ ∀ x_15 : Int32, x_15 = v_pairs_39 l1_39.toNatClampNeg → ∀ x_16 : Int32, x_16 = x_15 - x_15 / (60 : Int32) * (60 : Int32) → w_X9_ends x_12 v_one_count v_one_ahead (fun r_18 => w_X9_ends x_16 v_other_count v_other_ahead (fun r_19 => w_X8_look l1_39 r_18 r_19 v_onlyInOne_39 v_onlyInOther_39 v_parted_39 (fun r_20_0 r_20_1 r_20_2 => ∃ k9 : Nat, w_X8_walkBoth_98 v_alphabet_count v_alphabet_begins v_one_count v_one_width v_one_goes v_other_count v_other_width v_other_goes v_stamp_39 Q K39 l1_39 x_12 x_16 r_20_0 r_20_1 r_20_2 k9 0 v_pairCount_39 v_met_39 v_pairs_39 v_cameFrom_39 v_cameBy_39)))))
def w_X8_walkBoth_39 (v_alphabet_count : Int32) (v_alphabet_begins : Nat → Int32) (v_one_count : Int32) (v_one_width : Int32) (v_one_ahead : Nat → Int64) (v_one_goes : Nat → Int32) (v_other_count : Int32) (v_other_width : Int32) (v_other_ahead : Nat → Int64) (v_other_goes : Nat → Int32) (Q : Bool → Bool → Int32 → Int32 → Int32 → (Nat → Int32) → (Nat → Int32) → (Nat → Int32) → (Nat → Int32) → Prop) (v_stamp_39 : Int32) : Nat → Int32 → Bool → Bool → Int32 → Int32 → (Nat → Int32) → (Nat → Int32) → (Nat → Int32) → (Nat → Int32) → Prop
  | 0, _, _, _, _, _, _, _, _, _ => False
  | n9 + 1, l1_39, v_onlyInOne_39, v_onlyInOther_39, v_pairCount_39, v_parted_39, v_met_39, v_pairs_39, v_cameFrom_39, v_cameBy_39 => w_X8_walkBoth_39B v_alphabet_count v_alphabet_begins v_one_count v_one_width v_one_ahead v_one_goes v_other_count v_other_width v_other_ahead v_other_goes Q (w_X8_walkBoth_39 v_alphabet_count v_alphabet_begins v_one_count v_one_width v_one_ahead v_one_goes v_other_count v_other_width v_other_ahead v_other_goes Q v_stamp_39 n9) v_stamp_39 l1_39 v_onlyInOne_39 v_onlyInOther_39 v_pairCount_39 v_parted_39 v_met_39 v_pairs_39 v_cameFrom_39 v_cameBy_39
def w_X8_walkBoth (v_stamp : Int32) (v_alphabet_count : Int32) (v_alphabet_begins : Nat → Int32) (v_one_count : Int32) (v_one_width : Int32) (v_one_ahead : Nat → Int64) (v_one_goes : Nat → Int32) (v_other_count : Int32) (v_other_width : Int32) (v_other_ahead : Nat → Int64) (v_other_goes : Nat → Int32) (v_met : Nat → Int32) (v_pairs : Nat → Int32) (v_cameFrom : Nat → Int32) (v_cameBy : Nat → Int32) (Q : Bool → Bool → Int32 → Int32 → Int32 → (Nat → Int32) → (Nat → Int32) → (Nat → Int32) → (Nat → Int32) → Prop) : Prop :=
  ∀ x_4 : Int32, x_4 = v_stamp + (1 : Int32) → w_X8_meet 0 (-1) 0 x_4 0 v_met v_pairs v_cameFrom v_cameBy (fun r_7_0 r_7_1 r_7_2 r_7_3 r_7_4 => ∃ k9 : Nat, w_X8_walkBoth_39 v_alphabet_count v_alphabet_begins v_one_count v_one_width v_one_ahead v_one_goes v_other_count v_other_width v_other_ahead v_other_goes Q x_4 k9 0 false false r_7_0 (-1) r_7_1 r_7_2 r_7_3 r_7_4)
set_option maxHeartbeats 4000000 in
set_option maxRecDepth 100000 in
theorem mt_X8_walkBoth (l : Launch) (dC : Nat → ClassId) (dI : Nat → Nat → Nat) (h0 h1 h2 h3 h4 h5 h6 h7 h8 h9 h10 h11 h12 h13 h14 h15 h16 h17 h18 h19 h20 h21 h22 h23 h24 h25 h26 h27 h28 h29 h30 h31 h32 h33 h34 : Nat) (k0 k1 k2 k3 k4 k5 k6 k7 k8 : ClassId) (v_onlyInOne : Bool) (v_onlyInOther : Bool) (v_stamp : Int32) (v_pairCount : Int32) (v_parted : Int32) (v_alphabet_count : Int32) (v_alphabet_begins : Nat → Int32) (v_one_count : Int32) (v_one_positionCount : Int32) (v_one_stamp : Int32) (v_one_stackCount : Int32) (v_one_width : Int32) (v_one_ahead : Nat → Int64) (v_one_goes : Nat → Int32) (v_other_count : Int32) (v_other_positionCount : Int32) (v_other_stamp : Int32) (v_other_stackCount : Int32) (v_other_width : Int32) (v_other_ahead : Nat → Int64) (v_other_goes : Nat → Int32) (v_met : Nat → Int32) (v_pairs : Nat → Int32) (v_cameFrom : Nat → Int32) (v_cameBy : Nat → Int32) (Q : Bool → Bool → Int32 → Int32 → Int32 → (Nat → Int32) → (Nat → Int32) → (Nat → Int32) → (Nat → Int32) → Prop) (w : w_X8_walkBoth v_stamp v_alphabet_count v_alphabet_begins v_one_count v_one_width v_one_ahead v_one_goes v_other_count v_other_width v_other_ahead v_other_goes v_met v_pairs v_cameFrom v_cameBy Q) (sz : Nat) : Met l yX8_walkBoth (WS yX8_walkBoth cX8_walkBoth 5 none) ({ frames := 1, cells := 0, slots := 0, locals := 23 } : Room) (va_Pc [.ref h0] (fun U => U.heap.size = sz ∧ va_P (dC, dI) vwCl [(h0, .inr (11, oX8 (.ref h1) (.ref h3) (.ref h6) v_onlyInOne v_onlyInOther (.ref h9) v_stamp (.ref h10) (.ref h11) (.ref h12) v_pairCount v_parted)), (h1, .inr (3, oX0 v_alphabet_count (.ref h2))), (h2, .inl (k0, 256, .inl v_alphabet_begins)), (h3, .inr (12, oX9 v_one_count (.ref h13) v_one_positionCount (.ref h14) (.ref h15) (.ref h16) (.ref h17) (.ref h18) v_one_stamp (.ref h19) v_one_stackCount v_one_width (.ref h20) (.ref h4) (.ref h5) (.ref h21) (.ref h22) (.ref h23))), (h4, .inl (k1, 60, .inr (.inl v_one_ahead))), (h5, .inl (k2, 15360, .inl v_one_goes)), (h6, .inr (12, oX9 v_other_count (.ref h24) v_other_positionCount (.ref h25) (.ref h26) (.ref h27) (.ref h28) (.ref h29) v_other_stamp (.ref h30) v_other_stackCount v_other_width (.ref h31) (.ref h7) (.ref h8) (.ref h32) (.ref h33) (.ref h34))), (h7, .inl (k3, 60, .inr (.inl v_other_ahead))), (h8, .inl (k4, 15360, .inl v_other_goes)), (h9, .inl (k5, 3600, .inl v_met)), (h10, .inl (k6, 3600, .inl v_pairs)), (h11, .inl (k7, 3600, .inl v_cameFrom)), (h12, .inl (k8, 3600, .inl v_cameBy))] U.heap ∧ va_K (dC, dI) vwCl [(k0, .int), (k1, .long), (k2, .int), (k3, .long), (k4, .int), (k5, .int), (k6, .int), (k7, .int), (k8, .int)] U ∧ va_D (fun _ => True) [(h0, .inr (11, oX8 (.ref h1) (.ref h3) (.ref h6) v_onlyInOne v_onlyInOther (.ref h9) v_stamp (.ref h10) (.ref h11) (.ref h12) v_pairCount v_parted)), (h1, .inr (3, oX0 v_alphabet_count (.ref h2))), (h2, .inl (k0, 256, .inl v_alphabet_begins)), (h3, .inr (12, oX9 v_one_count (.ref h13) v_one_positionCount (.ref h14) (.ref h15) (.ref h16) (.ref h17) (.ref h18) v_one_stamp (.ref h19) v_one_stackCount v_one_width (.ref h20) (.ref h4) (.ref h5) (.ref h21) (.ref h22) (.ref h23))), (h4, .inl (k1, 60, .inr (.inl v_one_ahead))), (h5, .inl (k2, 15360, .inl v_one_goes)), (h6, .inr (12, oX9 v_other_count (.ref h24) v_other_positionCount (.ref h25) (.ref h26) (.ref h27) (.ref h28) (.ref h29) v_other_stamp (.ref h30) v_other_stackCount v_other_width (.ref h31) (.ref h7) (.ref h8) (.ref h32) (.ref h33) (.ref h34))), (h7, .inl (k3, 60, .inr (.inl v_other_ahead))), (h8, .inl (k4, 15360, .inl v_other_goes)), (h9, .inl (k5, 3600, .inl v_met)), (h10, .inl (k6, 3600, .inl v_pairs)), (h11, .inl (k7, 3600, .inl v_cameFrom)), (h12, .inl (k8, 3600, .inl v_cameBy))])) (va_Qv (fun (u : Nat) => u = 0) (fun (_ : Nat) (t : State) => ∃ (ov_onlyInOne : Bool), ∃ (ov_onlyInOther : Bool), ∃ (ov_stamp : Int32), ∃ (ov_pairCount : Int32), ∃ (ov_parted : Int32), ∃ (ov_met : Nat → Int32), ∃ (ov_pairs : Nat → Int32), ∃ (ov_cameFrom : Nat → Int32), ∃ (ov_cameBy : Nat → Int32), (Q ov_onlyInOne ov_onlyInOther ov_stamp ov_pairCount ov_parted ov_met ov_pairs ov_cameFrom ov_cameBy) ∧ va_P (dC, dI) vwCl [(h0, .inr (11, oX8 (.ref h1) (.ref h3) (.ref h6) ov_onlyInOne ov_onlyInOther (.ref h9) ov_stamp (.ref h10) (.ref h11) (.ref h12) ov_pairCount ov_parted)), (h1, .inr (3, oX0 v_alphabet_count (.ref h2))), (h2, .inl (k0, 256, .inl v_alphabet_begins)), (h3, .inr (12, oX9 v_one_count (.ref h13) v_one_positionCount (.ref h14) (.ref h15) (.ref h16) (.ref h17) (.ref h18) v_one_stamp (.ref h19) v_one_stackCount v_one_width (.ref h20) (.ref h4) (.ref h5) (.ref h21) (.ref h22) (.ref h23))), (h4, .inl (k1, 60, .inr (.inl v_one_ahead))), (h5, .inl (k2, 15360, .inl v_one_goes)), (h6, .inr (12, oX9 v_other_count (.ref h24) v_other_positionCount (.ref h25) (.ref h26) (.ref h27) (.ref h28) (.ref h29) v_other_stamp (.ref h30) v_other_stackCount v_other_width (.ref h31) (.ref h7) (.ref h8) (.ref h32) (.ref h33) (.ref h34))), (h7, .inl (k3, 60, .inr (.inl v_other_ahead))), (h8, .inl (k4, 15360, .inl v_other_goes)), (h9, .inl (k5, 3600, .inl ov_met)), (h10, .inl (k6, 3600, .inl ov_pairs)), (h11, .inl (k7, 3600, .inl ov_cameFrom)), (h12, .inl (k8, 3600, .inl ov_cameBy))] t.heap ∧ va_D (va_A [(h0, .inr (11, oX8 (.ref h1) (.ref h3) (.ref h6) v_onlyInOne v_onlyInOther (.ref h9) v_stamp (.ref h10) (.ref h11) (.ref h12) v_pairCount v_parted)), (h1, .inr (3, oX0 v_alphabet_count (.ref h2))), (h2, .inl (k0, 256, .inl v_alphabet_begins)), (h3, .inr (12, oX9 v_one_count (.ref h13) v_one_positionCount (.ref h14) (.ref h15) (.ref h16) (.ref h17) (.ref h18) v_one_stamp (.ref h19) v_one_stackCount v_one_width (.ref h20) (.ref h4) (.ref h5) (.ref h21) (.ref h22) (.ref h23))), (h4, .inl (k1, 60, .inr (.inl v_one_ahead))), (h5, .inl (k2, 15360, .inl v_one_goes)), (h6, .inr (12, oX9 v_other_count (.ref h24) v_other_positionCount (.ref h25) (.ref h26) (.ref h27) (.ref h28) (.ref h29) v_other_stamp (.ref h30) v_other_stackCount v_other_width (.ref h31) (.ref h7) (.ref h8) (.ref h32) (.ref h33) (.ref h34))), (h7, .inl (k3, 60, .inr (.inl v_other_ahead))), (h8, .inl (k4, 15360, .inl v_other_goes)), (h9, .inl (k5, 3600, .inl v_met)), (h10, .inl (k6, 3600, .inl v_pairs)), (h11, .inl (k7, 3600, .inl v_cameFrom)), (h12, .inl (k8, 3600, .inl v_cameBy))] sz) [(h0, .inr (11, oX8 (.ref h1) (.ref h3) (.ref h6) ov_onlyInOne ov_onlyInOther (.ref h9) ov_stamp (.ref h10) (.ref h11) (.ref h12) ov_pairCount ov_parted)), (h1, .inr (3, oX0 v_alphabet_count (.ref h2))), (h2, .inl (k0, 256, .inl v_alphabet_begins)), (h3, .inr (12, oX9 v_one_count (.ref h13) v_one_positionCount (.ref h14) (.ref h15) (.ref h16) (.ref h17) (.ref h18) v_one_stamp (.ref h19) v_one_stackCount v_one_width (.ref h20) (.ref h4) (.ref h5) (.ref h21) (.ref h22) (.ref h23))), (h4, .inl (k1, 60, .inr (.inl v_one_ahead))), (h5, .inl (k2, 15360, .inl v_one_goes)), (h6, .inr (12, oX9 v_other_count (.ref h24) v_other_positionCount (.ref h25) (.ref h26) (.ref h27) (.ref h28) (.ref h29) v_other_stamp (.ref h30) v_other_stackCount v_other_width (.ref h31) (.ref h7) (.ref h8) (.ref h32) (.ref h33) (.ref h34))), (h7, .inl (k3, 60, .inr (.inl v_other_ahead))), (h8, .inl (k4, 15360, .inl v_other_goes)), (h9, .inl (k5, 3600, .inl ov_met)), (h10, .inl (k6, 3600, .inl ov_pairs)), (h11, .inl (k7, 3600, .inl ov_cameFrom)), (h12, .inl (k8, 3600, .inl ov_cameBy))]) (va_A [(h0, .inr (11, oX8 (.ref h1) (.ref h3) (.ref h6) v_onlyInOne v_onlyInOther (.ref h9) v_stamp (.ref h10) (.ref h11) (.ref h12) v_pairCount v_parted)), (h1, .inr (3, oX0 v_alphabet_count (.ref h2))), (h2, .inl (k0, 256, .inl v_alphabet_begins)), (h3, .inr (12, oX9 v_one_count (.ref h13) v_one_positionCount (.ref h14) (.ref h15) (.ref h16) (.ref h17) (.ref h18) v_one_stamp (.ref h19) v_one_stackCount v_one_width (.ref h20) (.ref h4) (.ref h5) (.ref h21) (.ref h22) (.ref h23))), (h4, .inl (k1, 60, .inr (.inl v_one_ahead))), (h5, .inl (k2, 15360, .inl v_one_goes)), (h6, .inr (12, oX9 v_other_count (.ref h24) v_other_positionCount (.ref h25) (.ref h26) (.ref h27) (.ref h28) (.ref h29) v_other_stamp (.ref h30) v_other_stackCount v_other_width (.ref h31) (.ref h7) (.ref h8) (.ref h32) (.ref h33) (.ref h34))), (h7, .inl (k3, 60, .inr (.inl v_other_ahead))), (h8, .inl (k4, 15360, .inl v_other_goes)), (h9, .inl (k5, 3600, .inl v_met)), (h10, .inl (k6, 3600, .inl v_pairs)), (h11, .inl (k7, 3600, .inl v_cameFrom)), (h12, .inl (k8, 3600, .inl v_cameBy))] sz)) 0 0 (va_A [(h0, .inr (11, oX8 (.ref h1) (.ref h3) (.ref h6) v_onlyInOne v_onlyInOther (.ref h9) v_stamp (.ref h10) (.ref h11) (.ref h12) v_pairCount v_parted)), (h1, .inr (3, oX0 v_alphabet_count (.ref h2))), (h2, .inl (k0, 256, .inl v_alphabet_begins)), (h3, .inr (12, oX9 v_one_count (.ref h13) v_one_positionCount (.ref h14) (.ref h15) (.ref h16) (.ref h17) (.ref h18) v_one_stamp (.ref h19) v_one_stackCount v_one_width (.ref h20) (.ref h4) (.ref h5) (.ref h21) (.ref h22) (.ref h23))), (h4, .inl (k1, 60, .inr (.inl v_one_ahead))), (h5, .inl (k2, 15360, .inl v_one_goes)), (h6, .inr (12, oX9 v_other_count (.ref h24) v_other_positionCount (.ref h25) (.ref h26) (.ref h27) (.ref h28) (.ref h29) v_other_stamp (.ref h30) v_other_stackCount v_other_width (.ref h31) (.ref h7) (.ref h8) (.ref h32) (.ref h33) (.ref h34))), (h7, .inl (k3, 60, .inr (.inl v_other_ahead))), (h8, .inl (k4, 15360, .inl v_other_goes)), (h9, .inl (k5, 3600, .inl v_met)), (h10, .inl (k6, 3600, .inl v_pairs)), (h11, .inl (k7, 3600, .inl v_cameFrom)), (h12, .inl (k8, 3600, .inl v_cameBy))] sz) := by
  refine Met.ofW (cc := cX8_walkBoth) (maxL := 5) (ret := none) (by decide) rfl ?_
  intro p e s m args below meth c s₁ B hml hv
  obtain ⟨rfl, hsz, hP, hK, hD0⟩ := hv
  have hx := B.exec
  have hb := B.bytes
  have hr := B.returns
  have hts := atoms_spec (ws := WS yX8_walkBoth cX8_walkBoth 5 none) B.pre
  have ht : ∀ w ∈ TW, w.before _ s = true := fun w h => hts w (List.mem_cons_of_mem _ h)
  have hown : s.vm.findClass "PatternWorkshop$Sets" = some m.cls := findClass_of_methodNamed B.named
  have hlocks := B.notSynchronized
  subst hsz
  have hD := hD0.self (sz := s.heap.size)
  generalize hAe : va_A [(h0, .inr (11, oX8 (.ref h1) (.ref h3) (.ref h6) v_onlyInOne v_onlyInOther (.ref h9) v_stamp (.ref h10) (.ref h11) (.ref h12) v_pairCount v_parted)), (h1, .inr (3, oX0 v_alphabet_count (.ref h2))), (h2, .inl (k0, 256, .inl v_alphabet_begins)), (h3, .inr (12, oX9 v_one_count (.ref h13) v_one_positionCount (.ref h14) (.ref h15) (.ref h16) (.ref h17) (.ref h18) v_one_stamp (.ref h19) v_one_stackCount v_one_width (.ref h20) (.ref h4) (.ref h5) (.ref h21) (.ref h22) (.ref h23))), (h4, .inl (k1, 60, .inr (.inl v_one_ahead))), (h5, .inl (k2, 15360, .inl v_one_goes)), (h6, .inr (12, oX9 v_other_count (.ref h24) v_other_positionCount (.ref h25) (.ref h26) (.ref h27) (.ref h28) (.ref h29) v_other_stamp (.ref h30) v_other_stackCount v_other_width (.ref h31) (.ref h7) (.ref h8) (.ref h32) (.ref h33) (.ref h34))), (h7, .inl (k3, 60, .inr (.inl v_other_ahead))), (h8, .inl (k4, 15360, .inl v_other_goes)), (h9, .inl (k5, 3600, .inl v_met)), (h10, .inl (k6, 3600, .inl v_pairs)), (h11, .inl (k7, 3600, .inl v_cameFrom)), (h12, .inl (k8, 3600, .inl v_cameBy))] s.heap.size = A at hD ⊢
  have hA : ∀ q : Nat, s.heap.size ≤ q → A q := fun q h => by rw [← hAe]; exact Or.inr h
  have hS : va_S A s.heap s.heap [] := va_S.rf
  have hP : va_P (dC, dI) vwCl [(h0, .inr (11, oX8 (.ref h1) (.ref h3) (.ref h6) v_onlyInOne v_onlyInOther (.ref h9) v_stamp (.ref h10) (.ref h11) (.ref h12) v_pairCount v_parted)), (h1, .inr (3, oX0 v_alphabet_count (.ref h2))), (h2, .inl (k0, 256, .inl v_alphabet_begins)), (h3, .inr (12, oX9 v_one_count (.ref h13) v_one_positionCount (.ref h14) (.ref h15) (.ref h16) (.ref h17) (.ref h18) v_one_stamp (.ref h19) v_one_stackCount v_one_width (.ref h20) (.ref h4) (.ref h5) (.ref h21) (.ref h22) (.ref h23))), (h4, .inl (k1, 60, .inr (.inl v_one_ahead))), (h5, .inl (k2, 15360, .inl v_one_goes)), (h6, .inr (12, oX9 v_other_count (.ref h24) v_other_positionCount (.ref h25) (.ref h26) (.ref h27) (.ref h28) (.ref h29) v_other_stamp (.ref h30) v_other_stackCount v_other_width (.ref h31) (.ref h7) (.ref h8) (.ref h32) (.ref h33) (.ref h34))), (h7, .inl (k3, 60, .inr (.inl v_other_ahead))), (h8, .inl (k4, 15360, .inl v_other_goes)), (h9, .inl (k5, 3600, .inl v_met)), (h10, .inl (k6, 3600, .inl v_pairs)), (h11, .inl (k7, 3600, .inl v_cameFrom)), (h12, .inl (k8, 3600, .inl v_cameBy))] s.heap := hP
  have hl := lv_entry ([.ref h0]) (n := 5) (Nat.le_of_ble_eq_true rfl)
  rw [lg_entry_eq]
  generalize (lg_sl ([.ref h0]) ++ List.replicate (5 - (lg_sl ([.ref h0])).length) Slot.unset).toArray = ls at hl ⊢
  have hl : lv_has ls 5 [(0, .ref h0)] := hl
  clear hD0
  obtain ⟨QQ, hQQ⟩ : ∃ QQ, QQ = MQ below (va_Qv (fun (u : Nat) => u = 0) (fun (_ : Nat) (t : State) => ∃ (ov_onlyInOne : Bool), ∃ (ov_onlyInOther : Bool), ∃ (ov_stamp : Int32), ∃ (ov_pairCount : Int32), ∃ (ov_parted : Int32), ∃ (ov_met : Nat → Int32), ∃ (ov_pairs : Nat → Int32), ∃ (ov_cameFrom : Nat → Int32), ∃ (ov_cameBy : Nat → Int32), (Q ov_onlyInOne ov_onlyInOther ov_stamp ov_pairCount ov_parted ov_met ov_pairs ov_cameFrom ov_cameBy) ∧ va_P (dC, dI) vwCl [(h0, .inr (11, oX8 (.ref h1) (.ref h3) (.ref h6) ov_onlyInOne ov_onlyInOther (.ref h9) ov_stamp (.ref h10) (.ref h11) (.ref h12) ov_pairCount ov_parted)), (h1, .inr (3, oX0 v_alphabet_count (.ref h2))), (h2, .inl (k0, 256, .inl v_alphabet_begins)), (h3, .inr (12, oX9 v_one_count (.ref h13) v_one_positionCount (.ref h14) (.ref h15) (.ref h16) (.ref h17) (.ref h18) v_one_stamp (.ref h19) v_one_stackCount v_one_width (.ref h20) (.ref h4) (.ref h5) (.ref h21) (.ref h22) (.ref h23))), (h4, .inl (k1, 60, .inr (.inl v_one_ahead))), (h5, .inl (k2, 15360, .inl v_one_goes)), (h6, .inr (12, oX9 v_other_count (.ref h24) v_other_positionCount (.ref h25) (.ref h26) (.ref h27) (.ref h28) (.ref h29) v_other_stamp (.ref h30) v_other_stackCount v_other_width (.ref h31) (.ref h7) (.ref h8) (.ref h32) (.ref h33) (.ref h34))), (h7, .inl (k3, 60, .inr (.inl v_other_ahead))), (h8, .inl (k4, 15360, .inl v_other_goes)), (h9, .inl (k5, 3600, .inl ov_met)), (h10, .inl (k6, 3600, .inl ov_pairs)), (h11, .inl (k7, 3600, .inl ov_cameFrom)), (h12, .inl (k8, 3600, .inl ov_cameBy))] t.heap ∧ va_D A [(h0, .inr (11, oX8 (.ref h1) (.ref h3) (.ref h6) ov_onlyInOne ov_onlyInOther (.ref h9) ov_stamp (.ref h10) (.ref h11) (.ref h12) ov_pairCount ov_parted)), (h1, .inr (3, oX0 v_alphabet_count (.ref h2))), (h2, .inl (k0, 256, .inl v_alphabet_begins)), (h3, .inr (12, oX9 v_one_count (.ref h13) v_one_positionCount (.ref h14) (.ref h15) (.ref h16) (.ref h17) (.ref h18) v_one_stamp (.ref h19) v_one_stackCount v_one_width (.ref h20) (.ref h4) (.ref h5) (.ref h21) (.ref h22) (.ref h23))), (h4, .inl (k1, 60, .inr (.inl v_one_ahead))), (h5, .inl (k2, 15360, .inl v_one_goes)), (h6, .inr (12, oX9 v_other_count (.ref h24) v_other_positionCount (.ref h25) (.ref h26) (.ref h27) (.ref h28) (.ref h29) v_other_stamp (.ref h30) v_other_stackCount v_other_width (.ref h31) (.ref h7) (.ref h8) (.ref h32) (.ref h33) (.ref h34))), (h7, .inl (k3, 60, .inr (.inl v_other_ahead))), (h8, .inl (k4, 15360, .inl v_other_goes)), (h9, .inl (k5, 3600, .inl ov_met)), (h10, .inl (k6, 3600, .inl ov_pairs)), (h11, .inl (k7, 3600, .inl ov_cameFrom)), (h12, .inl (k8, 3600, .inl ov_cameBy))]) A) ([.ref h0]).toArray s 0 0 A := ⟨_, rfl⟩
  show W p l e ({ frames := 1, cells := 0, slots := 0, locals := 23 } : Room) s m ([.ref h0]).toArray below meth c s.heap [] 0 0 (MQ below (va_Qv (fun (u : Nat) => u = 0) (fun (_ : Nat) (t : State) => ∃ (ov_onlyInOne : Bool), ∃ (ov_onlyInOther : Bool), ∃ (ov_stamp : Int32), ∃ (ov_pairCount : Int32), ∃ (ov_parted : Int32), ∃ (ov_met : Nat → Int32), ∃ (ov_pairs : Nat → Int32), ∃ (ov_cameFrom : Nat → Int32), ∃ (ov_cameBy : Nat → Int32), (Q ov_onlyInOne ov_onlyInOther ov_stamp ov_pairCount ov_parted ov_met ov_pairs ov_cameFrom ov_cameBy) ∧ va_P (dC, dI) vwCl [(h0, .inr (11, oX8 (.ref h1) (.ref h3) (.ref h6) ov_onlyInOne ov_onlyInOther (.ref h9) ov_stamp (.ref h10) (.ref h11) (.ref h12) ov_pairCount ov_parted)), (h1, .inr (3, oX0 v_alphabet_count (.ref h2))), (h2, .inl (k0, 256, .inl v_alphabet_begins)), (h3, .inr (12, oX9 v_one_count (.ref h13) v_one_positionCount (.ref h14) (.ref h15) (.ref h16) (.ref h17) (.ref h18) v_one_stamp (.ref h19) v_one_stackCount v_one_width (.ref h20) (.ref h4) (.ref h5) (.ref h21) (.ref h22) (.ref h23))), (h4, .inl (k1, 60, .inr (.inl v_one_ahead))), (h5, .inl (k2, 15360, .inl v_one_goes)), (h6, .inr (12, oX9 v_other_count (.ref h24) v_other_positionCount (.ref h25) (.ref h26) (.ref h27) (.ref h28) (.ref h29) v_other_stamp (.ref h30) v_other_stackCount v_other_width (.ref h31) (.ref h7) (.ref h8) (.ref h32) (.ref h33) (.ref h34))), (h7, .inl (k3, 60, .inr (.inl v_other_ahead))), (h8, .inl (k4, 15360, .inl v_other_goes)), (h9, .inl (k5, 3600, .inl ov_met)), (h10, .inl (k6, 3600, .inl ov_pairs)), (h11, .inl (k7, 3600, .inl ov_cameFrom)), (h12, .inl (k8, 3600, .inl ov_cameBy))] t.heap ∧ va_D A [(h0, .inr (11, oX8 (.ref h1) (.ref h3) (.ref h6) ov_onlyInOne ov_onlyInOther (.ref h9) ov_stamp (.ref h10) (.ref h11) (.ref h12) ov_pairCount ov_parted)), (h1, .inr (3, oX0 v_alphabet_count (.ref h2))), (h2, .inl (k0, 256, .inl v_alphabet_begins)), (h3, .inr (12, oX9 v_one_count (.ref h13) v_one_positionCount (.ref h14) (.ref h15) (.ref h16) (.ref h17) (.ref h18) v_one_stamp (.ref h19) v_one_stackCount v_one_width (.ref h20) (.ref h4) (.ref h5) (.ref h21) (.ref h22) (.ref h23))), (h4, .inl (k1, 60, .inr (.inl v_one_ahead))), (h5, .inl (k2, 15360, .inl v_one_goes)), (h6, .inr (12, oX9 v_other_count (.ref h24) v_other_positionCount (.ref h25) (.ref h26) (.ref h27) (.ref h28) (.ref h29) v_other_stamp (.ref h30) v_other_stackCount v_other_width (.ref h31) (.ref h7) (.ref h8) (.ref h32) (.ref h33) (.ref h34))), (h7, .inl (k3, 60, .inr (.inl v_other_ahead))), (h8, .inl (k4, 15360, .inl v_other_goes)), (h9, .inl (k5, 3600, .inl ov_met)), (h10, .inl (k6, 3600, .inl ov_pairs)), (h11, .inl (k7, 3600, .inl ov_cameFrom)), (h12, .inl (k8, 3600, .inl ov_cameBy))]) A) ([.ref h0]).toArray s 0 0 A) (F0 m 0 ls [])
  rw [← hQQ]
  unfold w_X8_walkBoth at w
  refine lv_aload_n hx hb dX8_walkBoth_0 rfl (lv_at hl 0 rfl) ?_
  refine lv_iconst (v := 0) hx hb dX8_walkBoth_1 (by decide) ?_
  refine va_put (D := (dC, dI)) (ci := 11) (v := .int 0) (ty := .boolean) (C := RX8) (T := TX8) (N := 12) hx hb ht inX8 tyX8 tyX8_ok nmX8 hown hK hP hD hS 0 rfl rfl 3 (by decide) (ht _ tw_763) (fun _ h9 => h9) rfl (by decide +kernel) rfl rfl (Nat.le_of_ble_eq_true rfl) dX8_walkBoth_2 (fun H_1 locs_1 hP_1 hD_1 hS_1 => ?_)
  have hP_1 : va_P (dC, dI) vwCl [(h0, .inr (11, oX8 (.ref h1) (.ref h3) (.ref h6) false v_onlyInOther (.ref h9) v_stamp (.ref h10) (.ref h11) (.ref h12) v_pairCount v_parted)), (h1, .inr (3, oX0 v_alphabet_count (.ref h2))), (h2, .inl (k0, 256, .inl v_alphabet_begins)), (h3, .inr (12, oX9 v_one_count (.ref h13) v_one_positionCount (.ref h14) (.ref h15) (.ref h16) (.ref h17) (.ref h18) v_one_stamp (.ref h19) v_one_stackCount v_one_width (.ref h20) (.ref h4) (.ref h5) (.ref h21) (.ref h22) (.ref h23))), (h4, .inl (k1, 60, .inr (.inl v_one_ahead))), (h5, .inl (k2, 15360, .inl v_one_goes)), (h6, .inr (12, oX9 v_other_count (.ref h24) v_other_positionCount (.ref h25) (.ref h26) (.ref h27) (.ref h28) (.ref h29) v_other_stamp (.ref h30) v_other_stackCount v_other_width (.ref h31) (.ref h7) (.ref h8) (.ref h32) (.ref h33) (.ref h34))), (h7, .inl (k3, 60, .inr (.inl v_other_ahead))), (h8, .inl (k4, 15360, .inl v_other_goes)), (h9, .inl (k5, 3600, .inl v_met)), (h10, .inl (k6, 3600, .inl v_pairs)), (h11, .inl (k7, 3600, .inl v_cameFrom)), (h12, .inl (k8, 3600, .inl v_cameBy))] H_1 := hP_1
  have hD_1 : va_D A [(h0, .inr (11, oX8 (.ref h1) (.ref h3) (.ref h6) false v_onlyInOther (.ref h9) v_stamp (.ref h10) (.ref h11) (.ref h12) v_pairCount v_parted)), (h1, .inr (3, oX0 v_alphabet_count (.ref h2))), (h2, .inl (k0, 256, .inl v_alphabet_begins)), (h3, .inr (12, oX9 v_one_count (.ref h13) v_one_positionCount (.ref h14) (.ref h15) (.ref h16) (.ref h17) (.ref h18) v_one_stamp (.ref h19) v_one_stackCount v_one_width (.ref h20) (.ref h4) (.ref h5) (.ref h21) (.ref h22) (.ref h23))), (h4, .inl (k1, 60, .inr (.inl v_one_ahead))), (h5, .inl (k2, 15360, .inl v_one_goes)), (h6, .inr (12, oX9 v_other_count (.ref h24) v_other_positionCount (.ref h25) (.ref h26) (.ref h27) (.ref h28) (.ref h29) v_other_stamp (.ref h30) v_other_stackCount v_other_width (.ref h31) (.ref h7) (.ref h8) (.ref h32) (.ref h33) (.ref h34))), (h7, .inl (k3, 60, .inr (.inl v_other_ahead))), (h8, .inl (k4, 15360, .inl v_other_goes)), (h9, .inl (k5, 3600, .inl v_met)), (h10, .inl (k6, 3600, .inl v_pairs)), (h11, .inl (k7, 3600, .inl v_cameFrom)), (h12, .inl (k8, 3600, .inl v_cameBy))] := hD_1
  refine lv_aload_n hx hb dX8_walkBoth_5 rfl (lv_at hl 0 rfl) ?_
  refine lv_iconst (v := 0) hx hb dX8_walkBoth_6 (by decide) ?_
  refine va_put (D := (dC, dI)) (ci := 11) (v := .int 0) (ty := .boolean) (C := RX8) (T := TX8) (N := 12) hx hb ht inX8 tyX8 tyX8_ok nmX8 hown hK hP_1 hD_1 hS_1 0 rfl rfl 4 (by decide) (ht _ tw_765) (fun _ h9 => h9) rfl (by decide +kernel) rfl rfl (Nat.le_of_ble_eq_true rfl) dX8_walkBoth_7 (fun H_2 locs_2 hP_2 hD_2 hS_2 => ?_)
  have hP_2 : va_P (dC, dI) vwCl [(h0, .inr (11, oX8 (.ref h1) (.ref h3) (.ref h6) false false (.ref h9) v_stamp (.ref h10) (.ref h11) (.ref h12) v_pairCount v_parted)), (h1, .inr (3, oX0 v_alphabet_count (.ref h2))), (h2, .inl (k0, 256, .inl v_alphabet_begins)), (h3, .inr (12, oX9 v_one_count (.ref h13) v_one_positionCount (.ref h14) (.ref h15) (.ref h16) (.ref h17) (.ref h18) v_one_stamp (.ref h19) v_one_stackCount v_one_width (.ref h20) (.ref h4) (.ref h5) (.ref h21) (.ref h22) (.ref h23))), (h4, .inl (k1, 60, .inr (.inl v_one_ahead))), (h5, .inl (k2, 15360, .inl v_one_goes)), (h6, .inr (12, oX9 v_other_count (.ref h24) v_other_positionCount (.ref h25) (.ref h26) (.ref h27) (.ref h28) (.ref h29) v_other_stamp (.ref h30) v_other_stackCount v_other_width (.ref h31) (.ref h7) (.ref h8) (.ref h32) (.ref h33) (.ref h34))), (h7, .inl (k3, 60, .inr (.inl v_other_ahead))), (h8, .inl (k4, 15360, .inl v_other_goes)), (h9, .inl (k5, 3600, .inl v_met)), (h10, .inl (k6, 3600, .inl v_pairs)), (h11, .inl (k7, 3600, .inl v_cameFrom)), (h12, .inl (k8, 3600, .inl v_cameBy))] H_2 := hP_2
  have hD_2 : va_D A [(h0, .inr (11, oX8 (.ref h1) (.ref h3) (.ref h6) false false (.ref h9) v_stamp (.ref h10) (.ref h11) (.ref h12) v_pairCount v_parted)), (h1, .inr (3, oX0 v_alphabet_count (.ref h2))), (h2, .inl (k0, 256, .inl v_alphabet_begins)), (h3, .inr (12, oX9 v_one_count (.ref h13) v_one_positionCount (.ref h14) (.ref h15) (.ref h16) (.ref h17) (.ref h18) v_one_stamp (.ref h19) v_one_stackCount v_one_width (.ref h20) (.ref h4) (.ref h5) (.ref h21) (.ref h22) (.ref h23))), (h4, .inl (k1, 60, .inr (.inl v_one_ahead))), (h5, .inl (k2, 15360, .inl v_one_goes)), (h6, .inr (12, oX9 v_other_count (.ref h24) v_other_positionCount (.ref h25) (.ref h26) (.ref h27) (.ref h28) (.ref h29) v_other_stamp (.ref h30) v_other_stackCount v_other_width (.ref h31) (.ref h7) (.ref h8) (.ref h32) (.ref h33) (.ref h34))), (h7, .inl (k3, 60, .inr (.inl v_other_ahead))), (h8, .inl (k4, 15360, .inl v_other_goes)), (h9, .inl (k5, 3600, .inl v_met)), (h10, .inl (k6, 3600, .inl v_pairs)), (h11, .inl (k7, 3600, .inl v_cameFrom)), (h12, .inl (k8, 3600, .inl v_cameBy))] := hD_2
  refine lv_aload_n hx hb dX8_walkBoth_10 rfl (lv_at hl 0 rfl) ?_
  refine lv_iconst (v := (-1)) hx hb dX8_walkBoth_11 (by decide) ?_
  refine va_put (D := (dC, dI)) (ci := 11) (v := .int (-1)) (ty := .int) (C := RX8) (T := TX8) (N := 12) hx hb ht inX8 tyX8 tyX8_ok nmX8 hown hK hP_2 hD_2 hS_2 0 rfl rfl 11 (by decide) (ht _ tw_773) (fun _ h9 => h9) rfl (by decide +kernel) rfl rfl (Nat.le_of_ble_eq_true rfl) dX8_walkBoth_12 (fun H_3 locs_3 hP_3 hD_3 hS_3 => ?_)
  have hP_3 : va_P (dC, dI) vwCl [(h0, .inr (11, oX8 (.ref h1) (.ref h3) (.ref h6) false false (.ref h9) v_stamp (.ref h10) (.ref h11) (.ref h12) v_pairCount (-1))), (h1, .inr (3, oX0 v_alphabet_count (.ref h2))), (h2, .inl (k0, 256, .inl v_alphabet_begins)), (h3, .inr (12, oX9 v_one_count (.ref h13) v_one_positionCount (.ref h14) (.ref h15) (.ref h16) (.ref h17) (.ref h18) v_one_stamp (.ref h19) v_one_stackCount v_one_width (.ref h20) (.ref h4) (.ref h5) (.ref h21) (.ref h22) (.ref h23))), (h4, .inl (k1, 60, .inr (.inl v_one_ahead))), (h5, .inl (k2, 15360, .inl v_one_goes)), (h6, .inr (12, oX9 v_other_count (.ref h24) v_other_positionCount (.ref h25) (.ref h26) (.ref h27) (.ref h28) (.ref h29) v_other_stamp (.ref h30) v_other_stackCount v_other_width (.ref h31) (.ref h7) (.ref h8) (.ref h32) (.ref h33) (.ref h34))), (h7, .inl (k3, 60, .inr (.inl v_other_ahead))), (h8, .inl (k4, 15360, .inl v_other_goes)), (h9, .inl (k5, 3600, .inl v_met)), (h10, .inl (k6, 3600, .inl v_pairs)), (h11, .inl (k7, 3600, .inl v_cameFrom)), (h12, .inl (k8, 3600, .inl v_cameBy))] H_3 := hP_3
  have hD_3 : va_D A [(h0, .inr (11, oX8 (.ref h1) (.ref h3) (.ref h6) false false (.ref h9) v_stamp (.ref h10) (.ref h11) (.ref h12) v_pairCount (-1))), (h1, .inr (3, oX0 v_alphabet_count (.ref h2))), (h2, .inl (k0, 256, .inl v_alphabet_begins)), (h3, .inr (12, oX9 v_one_count (.ref h13) v_one_positionCount (.ref h14) (.ref h15) (.ref h16) (.ref h17) (.ref h18) v_one_stamp (.ref h19) v_one_stackCount v_one_width (.ref h20) (.ref h4) (.ref h5) (.ref h21) (.ref h22) (.ref h23))), (h4, .inl (k1, 60, .inr (.inl v_one_ahead))), (h5, .inl (k2, 15360, .inl v_one_goes)), (h6, .inr (12, oX9 v_other_count (.ref h24) v_other_positionCount (.ref h25) (.ref h26) (.ref h27) (.ref h28) (.ref h29) v_other_stamp (.ref h30) v_other_stackCount v_other_width (.ref h31) (.ref h7) (.ref h8) (.ref h32) (.ref h33) (.ref h34))), (h7, .inl (k3, 60, .inr (.inl v_other_ahead))), (h8, .inl (k4, 15360, .inl v_other_goes)), (h9, .inl (k5, 3600, .inl v_met)), (h10, .inl (k6, 3600, .inl v_pairs)), (h11, .inl (k7, 3600, .inl v_cameFrom)), (h12, .inl (k8, 3600, .inl v_cameBy))] := hD_3
  refine lv_aload_n hx hb dX8_walkBoth_15 rfl (lv_at hl 0 rfl) ?_
  refine lv_dup hx hb dX8_walkBoth_16 rfl ?_
  refine va_get (D := (dC, dI)) (ci := 11) (v := .int v_stamp) (C := RX8) (T := TX8) (N := 12) hx hb ht inX8 hown hK hP_3 0 rfl rfl 6 (by decide) (ht _ tw_768) (fun _ h9 => h9) rfl dX8_walkBoth_17 ?_
  refine lv_iconst (v := 1) hx hb dX8_walkBoth_20 (by decide) ?_
  refine lv_iadd hx hb dX8_walkBoth_21 ?_
  refine lv_topi (fun x_4 ex_4 => ?_)
  have ex_4 : x_4 = v_stamp + (1 : Int32) := ex_4
  refine va_put (D := (dC, dI)) (ci := 11) (v := .int x_4) (ty := .int) (C := RX8) (T := TX8) (N := 12) hx hb ht inX8 tyX8 tyX8_ok nmX8 hown hK hP_3 hD_3 hS_3 0 rfl rfl 6 (by decide) (ht _ tw_768) (fun _ h9 => h9) rfl (by decide +kernel) rfl rfl (Nat.le_of_ble_eq_true rfl) dX8_walkBoth_22 (fun H_5 locs_5 hP_5 hD_5 hS_5 => ?_)
  have hP_5 : va_P (dC, dI) vwCl [(h0, .inr (11, oX8 (.ref h1) (.ref h3) (.ref h6) false false (.ref h9) x_4 (.ref h10) (.ref h11) (.ref h12) v_pairCount (-1))), (h1, .inr (3, oX0 v_alphabet_count (.ref h2))), (h2, .inl (k0, 256, .inl v_alphabet_begins)), (h3, .inr (12, oX9 v_one_count (.ref h13) v_one_positionCount (.ref h14) (.ref h15) (.ref h16) (.ref h17) (.ref h18) v_one_stamp (.ref h19) v_one_stackCount v_one_width (.ref h20) (.ref h4) (.ref h5) (.ref h21) (.ref h22) (.ref h23))), (h4, .inl (k1, 60, .inr (.inl v_one_ahead))), (h5, .inl (k2, 15360, .inl v_one_goes)), (h6, .inr (12, oX9 v_other_count (.ref h24) v_other_positionCount (.ref h25) (.ref h26) (.ref h27) (.ref h28) (.ref h29) v_other_stamp (.ref h30) v_other_stackCount v_other_width (.ref h31) (.ref h7) (.ref h8) (.ref h32) (.ref h33) (.ref h34))), (h7, .inl (k3, 60, .inr (.inl v_other_ahead))), (h8, .inl (k4, 15360, .inl v_other_goes)), (h9, .inl (k5, 3600, .inl v_met)), (h10, .inl (k6, 3600, .inl v_pairs)), (h11, .inl (k7, 3600, .inl v_cameFrom)), (h12, .inl (k8, 3600, .inl v_cameBy))] H_5 := hP_5
  have hD_5 : va_D A [(h0, .inr (11, oX8 (.ref h1) (.ref h3) (.ref h6) false false (.ref h9) x_4 (.ref h10) (.ref h11) (.ref h12) v_pairCount (-1))), (h1, .inr (3, oX0 v_alphabet_count (.ref h2))), (h2, .inl (k0, 256, .inl v_alphabet_begins)), (h3, .inr (12, oX9 v_one_count (.ref h13) v_one_positionCount (.ref h14) (.ref h15) (.ref h16) (.ref h17) (.ref h18) v_one_stamp (.ref h19) v_one_stackCount v_one_width (.ref h20) (.ref h4) (.ref h5) (.ref h21) (.ref h22) (.ref h23))), (h4, .inl (k1, 60, .inr (.inl v_one_ahead))), (h5, .inl (k2, 15360, .inl v_one_goes)), (h6, .inr (12, oX9 v_other_count (.ref h24) v_other_positionCount (.ref h25) (.ref h26) (.ref h27) (.ref h28) (.ref h29) v_other_stamp (.ref h30) v_other_stackCount v_other_width (.ref h31) (.ref h7) (.ref h8) (.ref h32) (.ref h33) (.ref h34))), (h7, .inl (k3, 60, .inr (.inl v_other_ahead))), (h8, .inl (k4, 15360, .inl v_other_goes)), (h9, .inl (k5, 3600, .inl v_met)), (h10, .inl (k6, 3600, .inl v_pairs)), (h11, .inl (k7, 3600, .inl v_cameFrom)), (h12, .inl (k8, 3600, .inl v_cameBy))] := hD_5
  refine lv_aload_n hx hb dX8_walkBoth_25 rfl (lv_at hl 0 rfl) ?_
  refine lv_iconst (v := 0) hx hb dX8_walkBoth_26 (by decide) ?_
  refine va_put (D := (dC, dI)) (ci := 11) (v := .int 0) (ty := .int) (C := RX8) (T := TX8) (N := 12) hx hb ht inX8 tyX8 tyX8_ok nmX8 hown hK hP_5 hD_5 hS_5 0 rfl rfl 10 (by decide) (ht _ tw_772) (fun _ h9 => h9) rfl (by decide +kernel) rfl rfl (Nat.le_of_ble_eq_true rfl) dX8_walkBoth_27 (fun H_6 locs_6 hP_6 hD_6 hS_6 => ?_)
  have hP_6 : va_P (dC, dI) vwCl [(h0, .inr (11, oX8 (.ref h1) (.ref h3) (.ref h6) false false (.ref h9) x_4 (.ref h10) (.ref h11) (.ref h12) 0 (-1))), (h1, .inr (3, oX0 v_alphabet_count (.ref h2))), (h2, .inl (k0, 256, .inl v_alphabet_begins)), (h3, .inr (12, oX9 v_one_count (.ref h13) v_one_positionCount (.ref h14) (.ref h15) (.ref h16) (.ref h17) (.ref h18) v_one_stamp (.ref h19) v_one_stackCount v_one_width (.ref h20) (.ref h4) (.ref h5) (.ref h21) (.ref h22) (.ref h23))), (h4, .inl (k1, 60, .inr (.inl v_one_ahead))), (h5, .inl (k2, 15360, .inl v_one_goes)), (h6, .inr (12, oX9 v_other_count (.ref h24) v_other_positionCount (.ref h25) (.ref h26) (.ref h27) (.ref h28) (.ref h29) v_other_stamp (.ref h30) v_other_stackCount v_other_width (.ref h31) (.ref h7) (.ref h8) (.ref h32) (.ref h33) (.ref h34))), (h7, .inl (k3, 60, .inr (.inl v_other_ahead))), (h8, .inl (k4, 15360, .inl v_other_goes)), (h9, .inl (k5, 3600, .inl v_met)), (h10, .inl (k6, 3600, .inl v_pairs)), (h11, .inl (k7, 3600, .inl v_cameFrom)), (h12, .inl (k8, 3600, .inl v_cameBy))] H_6 := hP_6
  have hD_6 : va_D A [(h0, .inr (11, oX8 (.ref h1) (.ref h3) (.ref h6) false false (.ref h9) x_4 (.ref h10) (.ref h11) (.ref h12) 0 (-1))), (h1, .inr (3, oX0 v_alphabet_count (.ref h2))), (h2, .inl (k0, 256, .inl v_alphabet_begins)), (h3, .inr (12, oX9 v_one_count (.ref h13) v_one_positionCount (.ref h14) (.ref h15) (.ref h16) (.ref h17) (.ref h18) v_one_stamp (.ref h19) v_one_stackCount v_one_width (.ref h20) (.ref h4) (.ref h5) (.ref h21) (.ref h22) (.ref h23))), (h4, .inl (k1, 60, .inr (.inl v_one_ahead))), (h5, .inl (k2, 15360, .inl v_one_goes)), (h6, .inr (12, oX9 v_other_count (.ref h24) v_other_positionCount (.ref h25) (.ref h26) (.ref h27) (.ref h28) (.ref h29) v_other_stamp (.ref h30) v_other_stackCount v_other_width (.ref h31) (.ref h7) (.ref h8) (.ref h32) (.ref h33) (.ref h34))), (h7, .inl (k3, 60, .inr (.inl v_other_ahead))), (h8, .inl (k4, 15360, .inl v_other_goes)), (h9, .inl (k5, 3600, .inl v_met)), (h10, .inl (k6, 3600, .inl v_pairs)), (h11, .inl (k7, 3600, .inl v_cameFrom)), (h12, .inl (k8, 3600, .inl v_cameBy))] := hD_6
  refine lv_aload_n hx hb dX8_walkBoth_30 rfl (lv_at hl 0 rfl) ?_
  refine lv_iconst (v := 0) hx hb dX8_walkBoth_31 (by decide) ?_
  refine lv_iconst (v := (-1)) hx hb dX8_walkBoth_32 (by decide) ?_
  refine lv_iconst (v := 0) hx hb dX8_walkBoth_33 (by decide) ?_
  have hPc_7 := vaPq hP_6 (wsq := [(h0, .inr (11, oX8 (.ref h1) (.ref h3) (.ref h6) false false (.ref h9) x_4 (.ref h10) (.ref h11) (.ref h12) 0 (-1))), (h9, .inl (k5, 3600, .inl v_met)), (h10, .inl (k6, 3600, .inl v_pairs)), (h11, .inl (k7, 3600, .inl v_cameFrom)), (h12, .inl (k8, 3600, .inl v_cameBy))]) [0, 9, 10, 11, 12] rfl
  have hDc_7 := vaDq hD_6 (wsq := [(h0, .inr (11, oX8 (.ref h1) (.ref h3) (.ref h6) false false (.ref h9) x_4 (.ref h10) (.ref h11) (.ref h12) 0 (-1))), (h9, .inl (k5, 3600, .inl v_met)), (h10, .inl (k6, 3600, .inl v_pairs)), (h11, .inl (k7, 3600, .inl v_cameFrom)), (h12, .inl (k8, 3600, .inl v_cameBy))]) [0, 9, 10, 11, 12] (by decide) rfl
  have hKc_7 := vaKq hK (tysq := [(k5, .int), (k6, .int), (k7, .int), (k8, .int)]) [5, 6, 7, 8] rfl
  have hFc_7 := va_free (wc := [(h0, .inr (11, oX8 (.ref h1) (.ref h3) (.ref h6) false false (.ref h9) x_4 (.ref h10) (.ref h11) (.ref h12) 0 (-1))), (h9, .inl (k5, 3600, .inl v_met)), (h10, .inl (k6, 3600, .inl v_pairs)), (h11, .inl (k7, 3600, .inl v_cameFrom)), (h12, .inl (k8, 3600, .inl v_cameBy))]) hD_6 hS_6 hA [0, 9, 10, 11, 12] rfl
  refine va_callv (va_runV (As := [.int 0, .int (-1), .int 0]) (rest := []) ⟨hx, hb, hml, hown, ht⟩ (mt_X8_meet l dC dI h0 h9 h10 h11 h12 h1 h3 h6 k5 k6 k7 k8 0 (-1) 0 false false x_4 0 (-1) v_met v_pairs v_cameFrom v_cameBy _ (w x_4 ex_4) H_6.size) (cwV 3 ht (goodV tw_1945 tw_1947 tw_142 tw_246 gw_X8_meet) rfl rfl rfl (by decide +kernel) ⟨Nat.le_of_ble_eq_true rfl, Nat.le_of_ble_eq_true rfl⟩) ⟨fun a U g mk q => by obtain ⟨q0, q1, qP, qK, qD⟩ := q; exact ⟨q0, q1, qP, va_K.moved (u := U) (U := U.calling g mk a) (Vm.Alike.refl U.vm) qK, qD⟩, va_recv hKc_7 hPc_7 (ci := 11) (q0 := 0) rfl rfl, fun U hU hW => ⟨rfl, by rw [hU], by rw [hU]; exact hPc_7, va_K.moved hW.alike hKc_7, hDc_7.weaken (fun _ _ _ _ => trivial)⟩⟩ rfl rfl hl.1 rfl (lv_room (Nat.le_of_ble_eq_true rfl)) dX8_walkBoth_34 ⟨Nat.le_of_ble_eq_true rfl, Nat.le_of_ble_eq_true rfl⟩) hS_6 (fun q _ h => hFc_7 q h) hFc_7 (fun u_7 t_7 H_7 locs_7 ht_7 hvm_7 hw_7 hB_7 hz_7 hk_7 hS_7 => ?_)
  subst hw_7
  obtain ⟨r_7_0, r_7_1, r_7_2, r_7_3, r_7_4, w_7, hP1_7, hD1_7⟩ := hB_7
  rw [ht_7] at hP1_7
  obtain ⟨hP_7, hD_7⟩ := va_join (wr := [(h1, .inr (3, oX0 v_alphabet_count (.ref h2))), (h2, .inl (k0, 256, .inl v_alphabet_begins)), (h3, .inr (12, oX9 v_one_count (.ref h13) v_one_positionCount (.ref h14) (.ref h15) (.ref h16) (.ref h17) (.ref h18) v_one_stamp (.ref h19) v_one_stackCount v_one_width (.ref h20) (.ref h4) (.ref h5) (.ref h21) (.ref h22) (.ref h23))), (h4, .inl (k1, 60, .inr (.inl v_one_ahead))), (h5, .inl (k2, 15360, .inl v_one_goes)), (h6, .inr (12, oX9 v_other_count (.ref h24) v_other_positionCount (.ref h25) (.ref h26) (.ref h27) (.ref h28) (.ref h29) v_other_stamp (.ref h30) v_other_stackCount v_other_width (.ref h31) (.ref h7) (.ref h8) (.ref h32) (.ref h33) (.ref h34))), (h7, .inl (k3, 60, .inr (.inl v_other_ahead))), (h8, .inl (k4, 15360, .inl v_other_goes))]) (w1 := [(h0, .inr (11, oX8 (.ref h1) (.ref h3) (.ref h6) false false (.ref h9) x_4 (.ref h10) (.ref h11) (.ref h12) r_7_0 (-1))), (h9, .inl (k5, 3600, .inl r_7_1)), (h10, .inl (k6, 3600, .inl r_7_2)), (h11, .inl (k7, 3600, .inl r_7_3)), (h12, .inl (k8, 3600, .inl r_7_4))]) hP_6 hD_6 [0, 9, 10, 11, 12] [1, 2, 3, 4, 5, 6, 7, 8] rfl rfl (by decide) (by decide) hk_7 hFc_7 hP1_7 hD1_7
  have hP_7 := vaPq hP_7 (wsq := [(h0, .inr (11, oX8 (.ref h1) (.ref h3) (.ref h6) false false (.ref h9) x_4 (.ref h10) (.ref h11) (.ref h12) r_7_0 (-1))), (h1, .inr (3, oX0 v_alphabet_count (.ref h2))), (h2, .inl (k0, 256, .inl v_alphabet_begins)), (h3, .inr (12, oX9 v_one_count (.ref h13) v_one_positionCount (.ref h14) (.ref h15) (.ref h16) (.ref h17) (.ref h18) v_one_stamp (.ref h19) v_one_stackCount v_one_width (.ref h20) (.ref h4) (.ref h5) (.ref h21) (.ref h22) (.ref h23))), (h4, .inl (k1, 60, .inr (.inl v_one_ahead))), (h5, .inl (k2, 15360, .inl v_one_goes)), (h6, .inr (12, oX9 v_other_count (.ref h24) v_other_positionCount (.ref h25) (.ref h26) (.ref h27) (.ref h28) (.ref h29) v_other_stamp (.ref h30) v_other_stackCount v_other_width (.ref h31) (.ref h7) (.ref h8) (.ref h32) (.ref h33) (.ref h34))), (h7, .inl (k3, 60, .inr (.inl v_other_ahead))), (h8, .inl (k4, 15360, .inl v_other_goes)), (h9, .inl (k5, 3600, .inl r_7_1)), (h10, .inl (k6, 3600, .inl r_7_2)), (h11, .inl (k7, 3600, .inl r_7_3)), (h12, .inl (k8, 3600, .inl r_7_4))]) [8, 0, 1, 2, 3, 4, 5, 6, 7, 9, 10, 11, 12] rfl
  have hD_7 := vaDq hD_7 (wsq := [(h0, .inr (11, oX8 (.ref h1) (.ref h3) (.ref h6) false false (.ref h9) x_4 (.ref h10) (.ref h11) (.ref h12) r_7_0 (-1))), (h1, .inr (3, oX0 v_alphabet_count (.ref h2))), (h2, .inl (k0, 256, .inl v_alphabet_begins)), (h3, .inr (12, oX9 v_one_count (.ref h13) v_one_positionCount (.ref h14) (.ref h15) (.ref h16) (.ref h17) (.ref h18) v_one_stamp (.ref h19) v_one_stackCount v_one_width (.ref h20) (.ref h4) (.ref h5) (.ref h21) (.ref h22) (.ref h23))), (h4, .inl (k1, 60, .inr (.inl v_one_ahead))), (h5, .inl (k2, 15360, .inl v_one_goes)), (h6, .inr (12, oX9 v_other_count (.ref h24) v_other_positionCount (.ref h25) (.ref h26) (.ref h27) (.ref h28) (.ref h29) v_other_stamp (.ref h30) v_other_stackCount v_other_width (.ref h31) (.ref h7) (.ref h8) (.ref h32) (.ref h33) (.ref h34))), (h7, .inl (k3, 60, .inr (.inl v_other_ahead))), (h8, .inl (k4, 15360, .inl v_other_goes)), (h9, .inl (k5, 3600, .inl r_7_1)), (h10, .inl (k6, 3600, .inl r_7_2)), (h11, .inl (k7, 3600, .inl r_7_3)), (h12, .inl (k8, 3600, .inl r_7_4))]) [8, 0, 1, 2, 3, 4, 5, 6, 7, 9, 10, 11, 12] (by decide) rfl
  clear hPc_7 hDc_7 hKc_7 hFc_7 hP1_7 hD1_7 hk_7 hz_7
  refine lv_iconst (v := 0) hx hb dX8_walkBoth_37 (by decide) ?_
  refine lv_istore_n (lv' := [(1, .int 0), (0, .ref h0)]) hx hb dX8_walkBoth_38 rfl hl (by decide) rfl (fun ls_8 hl_8 => ?_)
  clear hl
  have k_39 : ∀ (v_stamp_39 : Int32), ∀ n_39 : Nat, ∀ (l1_39 : Int32) (v_onlyInOne_39 : Bool) (v_onlyInOther_39 : Bool) (v_pairCount_39 : Int32) (v_parted_39 : Int32) (v_met_39 : Nat → Int32) (v_pairs_39 : Nat → Int32) (v_cameFrom_39 : Nat → Int32) (v_cameBy_39 : Nat → Int32), ∀ (H_b39 : Heap) (locs_b39 : List Loc) (ls_b39 : Array Slot), w_X8_walkBoth_39 v_alphabet_count v_alphabet_begins v_one_count v_one_width v_one_ahead v_one_goes v_other_count v_other_width v_other_ahead v_other_goes Q v_stamp_39 n_39 l1_39 v_onlyInOne_39 v_onlyInOther_39 v_pairCount_39 v_parted_39 v_met_39 v_pairs_39 v_cameFrom_39 v_cameBy_39 → va_P (dC, dI) vwCl [(h0, .inr (11, oX8 (.ref h1) (.ref h3) (.ref h6) v_onlyInOne_39 v_onlyInOther_39 (.ref h9) v_stamp_39 (.ref h10) (.ref h11) (.ref h12) v_pairCount_39 v_parted_39)), (h1, .inr (3, oX0 v_alphabet_count (.ref h2))), (h2, .inl (k0, 256, .inl v_alphabet_begins)), (h3, .inr (12, oX9 v_one_count (.ref h13) v_one_positionCount (.ref h14) (.ref h15) (.ref h16) (.ref h17) (.ref h18) v_one_stamp (.ref h19) v_one_stackCount v_one_width (.ref h20) (.ref h4) (.ref h5) (.ref h21) (.ref h22) (.ref h23))), (h4, .inl (k1, 60, .inr (.inl v_one_ahead))), (h5, .inl (k2, 15360, .inl v_one_goes)), (h6, .inr (12, oX9 v_other_count (.ref h24) v_other_positionCount (.ref h25) (.ref h26) (.ref h27) (.ref h28) (.ref h29) v_other_stamp (.ref h30) v_other_stackCount v_other_width (.ref h31) (.ref h7) (.ref h8) (.ref h32) (.ref h33) (.ref h34))), (h7, .inl (k3, 60, .inr (.inl v_other_ahead))), (h8, .inl (k4, 15360, .inl v_other_goes)), (h9, .inl (k5, 3600, .inl v_met_39)), (h10, .inl (k6, 3600, .inl v_pairs_39)), (h11, .inl (k7, 3600, .inl v_cameFrom_39)), (h12, .inl (k8, 3600, .inl v_cameBy_39))] H_b39 → va_D A [(h0, .inr (11, oX8 (.ref h1) (.ref h3) (.ref h6) v_onlyInOne_39 v_onlyInOther_39 (.ref h9) v_stamp_39 (.ref h10) (.ref h11) (.ref h12) v_pairCount_39 v_parted_39)), (h1, .inr (3, oX0 v_alphabet_count (.ref h2))), (h2, .inl (k0, 256, .inl v_alphabet_begins)), (h3, .inr (12, oX9 v_one_count (.ref h13) v_one_positionCount (.ref h14) (.ref h15) (.ref h16) (.ref h17) (.ref h18) v_one_stamp (.ref h19) v_one_stackCount v_one_width (.ref h20) (.ref h4) (.ref h5) (.ref h21) (.ref h22) (.ref h23))), (h4, .inl (k1, 60, .inr (.inl v_one_ahead))), (h5, .inl (k2, 15360, .inl v_one_goes)), (h6, .inr (12, oX9 v_other_count (.ref h24) v_other_positionCount (.ref h25) (.ref h26) (.ref h27) (.ref h28) (.ref h29) v_other_stamp (.ref h30) v_other_stackCount v_other_width (.ref h31) (.ref h7) (.ref h8) (.ref h32) (.ref h33) (.ref h34))), (h7, .inl (k3, 60, .inr (.inl v_other_ahead))), (h8, .inl (k4, 15360, .inl v_other_goes)), (h9, .inl (k5, 3600, .inl v_met_39)), (h10, .inl (k6, 3600, .inl v_pairs_39)), (h11, .inl (k7, 3600, .inl v_cameFrom_39)), (h12, .inl (k8, 3600, .inl v_cameBy_39))] → va_S A s.heap H_b39 locs_b39 → lv_has ls_b39 5 [(0, .ref h0), (1, .int l1_39)] → W p l e ({ frames := 1, cells := 0, slots := 0, locals := 23 } : Room) s m ([.ref h0]).toArray below meth c H_b39 locs_b39 0 0 QQ (F0 m 39 ls_b39 []) := by
    intro v_stamp_39
    intro n_39
    induction n_39 with
    | zero =>
      intro l1_39 v_onlyInOne_39 v_onlyInOther_39 v_pairCount_39 v_parted_39 v_met_39 v_pairs_39 v_cameFrom_39 v_cameBy_39 H_b39 locs_b39 ls_b39 w_b39 hP_b39 hD_b39 hS_b39 hl_b39
      exact False.elim (by unfold w_X8_walkBoth_39 at w_b39; exact w_b39)
    | succ n_39 ih_39 =>
      intro l1_39 v_onlyInOne_39 v_onlyInOther_39 v_pairCount_39 v_parted_39 v_met_39 v_pairs_39 v_cameFrom_39 v_cameBy_39 H_b39 locs_b39 ls_b39 w_b39 hP_b39 hD_b39 hS_b39 hl_b39
      unfold w_X8_walkBoth_39 at w_b39
      unfold w_X8_walkBoth_39B at w_b39
      refine lv_iload_n hx hb dX8_walkBoth_39 rfl (lv_at hl_b39 1 rfl) ?_
      refine lv_aload_n hx hb dX8_walkBoth_40 rfl (lv_at hl_b39 0 rfl) ?_
      refine va_get (D := (dC, dI)) (ci := 11) (v := .int v_pairCount_39) (C := RX8) (T := TX8) (N := 12) hx hb ht inX8 hown hK hP_b39 0 rfl rfl 10 (by decide) (ht _ tw_772) (fun _ h9 => h9) rfl dX8_walkBoth_41 ?_
      have k_160 : ∀ (v_onlyInOne_160 : Bool) (v_onlyInOther_160 : Bool) (v_stamp_160 : Int32) (v_pairCount_160 : Int32) (v_parted_160 : Int32) (v_met_160 : Nat → Int32) (v_pairs_160 : Nat → Int32) (v_cameFrom_160 : Nat → Int32) (v_cameBy_160 : Nat → Int32), ∀ (H_b160 : Heap) (locs_b160 : List Loc) (ls_b160 : Array Slot), w_X8_walkBoth_160 Q v_onlyInOne_160 v_onlyInOther_160 v_stamp_160 v_pairCount_160 v_parted_160 v_met_160 v_pairs_160 v_cameFrom_160 v_cameBy_160 → va_P (dC, dI) vwCl [(h0, .inr (11, oX8 (.ref h1) (.ref h3) (.ref h6) v_onlyInOne_160 v_onlyInOther_160 (.ref h9) v_stamp_160 (.ref h10) (.ref h11) (.ref h12) v_pairCount_160 v_parted_160)), (h1, .inr (3, oX0 v_alphabet_count (.ref h2))), (h2, .inl (k0, 256, .inl v_alphabet_begins)), (h3, .inr (12, oX9 v_one_count (.ref h13) v_one_positionCount (.ref h14) (.ref h15) (.ref h16) (.ref h17) (.ref h18) v_one_stamp (.ref h19) v_one_stackCount v_one_width (.ref h20) (.ref h4) (.ref h5) (.ref h21) (.ref h22) (.ref h23))), (h4, .inl (k1, 60, .inr (.inl v_one_ahead))), (h5, .inl (k2, 15360, .inl v_one_goes)), (h6, .inr (12, oX9 v_other_count (.ref h24) v_other_positionCount (.ref h25) (.ref h26) (.ref h27) (.ref h28) (.ref h29) v_other_stamp (.ref h30) v_other_stackCount v_other_width (.ref h31) (.ref h7) (.ref h8) (.ref h32) (.ref h33) (.ref h34))), (h7, .inl (k3, 60, .inr (.inl v_other_ahead))), (h8, .inl (k4, 15360, .inl v_other_goes)), (h9, .inl (k5, 3600, .inl v_met_160)), (h10, .inl (k6, 3600, .inl v_pairs_160)), (h11, .inl (k7, 3600, .inl v_cameFrom_160)), (h12, .inl (k8, 3600, .inl v_cameBy_160))] H_b160 → va_D A [(h0, .inr (11, oX8 (.ref h1) (.ref h3) (.ref h6) v_onlyInOne_160 v_onlyInOther_160 (.ref h9) v_stamp_160 (.ref h10) (.ref h11) (.ref h12) v_pairCount_160 v_parted_160)), (h1, .inr (3, oX0 v_alphabet_count (.ref h2))), (h2, .inl (k0, 256, .inl v_alphabet_begins)), (h3, .inr (12, oX9 v_one_count (.ref h13) v_one_positionCount (.ref h14) (.ref h15) (.ref h16) (.ref h17) (.ref h18) v_one_stamp (.ref h19) v_one_stackCount v_one_width (.ref h20) (.ref h4) (.ref h5) (.ref h21) (.ref h22) (.ref h23))), (h4, .inl (k1, 60, .inr (.inl v_one_ahead))), (h5, .inl (k2, 15360, .inl v_one_goes)), (h6, .inr (12, oX9 v_other_count (.ref h24) v_other_positionCount (.ref h25) (.ref h26) (.ref h27) (.ref h28) (.ref h29) v_other_stamp (.ref h30) v_other_stackCount v_other_width (.ref h31) (.ref h7) (.ref h8) (.ref h32) (.ref h33) (.ref h34))), (h7, .inl (k3, 60, .inr (.inl v_other_ahead))), (h8, .inl (k4, 15360, .inl v_other_goes)), (h9, .inl (k5, 3600, .inl v_met_160)), (h10, .inl (k6, 3600, .inl v_pairs_160)), (h11, .inl (k7, 3600, .inl v_cameFrom_160)), (h12, .inl (k8, 3600, .inl v_cameBy_160))] → va_S A s.heap H_b160 locs_b160 → lv_has ls_b160 5 [] → W p l e ({ frames := 1, cells := 0, slots := 0, locals := 23 } : Room) s m ([.ref h0]).toArray below meth c H_b160 locs_b160 0 0 QQ (F0 m 160 ls_b160 []) := by
        intro v_onlyInOne_160 v_onlyInOther_160 v_stamp_160 v_pairCount_160 v_parted_160 v_met_160 v_pairs_160 v_cameFrom_160 v_cameBy_160 H_b160 locs_b160 ls_b160 w_b160 hP_b160 hD_b160 hS_b160 hl_b160
        unfold w_X8_walkBoth_160 at w_b160
        rw [hQQ]
        exact W.vret hx hb hr (fun t9 ht9 hW9 => ⟨⟨0, rfl, rfl, ⟨v_onlyInOne_160, v_onlyInOther_160, v_stamp_160, v_pairCount_160, v_parted_160, v_met_160, v_pairs_160, v_cameFrom_160, v_cameBy_160, w_b160, by rw [ht9]; exact hP_b160, hD_b160⟩⟩, hS_b160.F ht9⟩) hS_b160.2.2 dX8_walkBoth_160
      refine lv_icmp_ge (tgt := 160) hx hb dX8_walkBoth_44 (by decide) (fun c_9 => ?_) (fun c_9 => ?_)
      · exact k_160 v_onlyInOne_39 v_onlyInOther_39 v_stamp_39 v_pairCount_39 v_parted_39 v_met_39 v_pairs_39 v_cameFrom_39 v_cameBy_39 _ _ _ (w_b39.1 c_9) hP_b39 hD_b39 hS_b39 (lv_sub hl_b39 [] rfl)
      · refine lv_iload_n hx hb dX8_walkBoth_47 rfl (lv_at hl_b39 1 rfl) ?_
        refine lv_sipush (v := 3600) hx hb dX8_walkBoth_48 (by decide) ?_
        refine lv_icmp_ge (tgt := 160) hx hb dX8_walkBoth_51 (by decide) (fun c_10 => ?_) (fun c_10 => ?_)
        · exact k_160 v_onlyInOne_39 v_onlyInOther_39 v_stamp_39 v_pairCount_39 v_parted_39 v_met_39 v_pairs_39 v_cameFrom_39 v_cameBy_39 _ _ _ ((w_b39.2 c_9).1 c_10) hP_b39 hD_b39 hS_b39 (lv_sub hl_b39 [] rfl)
        · refine lv_aload_n hx hb dX8_walkBoth_54 rfl (lv_at hl_b39 0 rfl) ?_
          refine va_get (D := (dC, dI)) (ci := 11) (v := .ref h10) (C := RX8) (T := TX8) (N := 12) hx hb ht inX8 hown hK hP_b39 0 rfl rfl 7 (by decide) (ht _ tw_769) (fun _ h9 => h9) rfl dX8_walkBoth_55 ?_
          refine lv_iload_n hx hb dX8_walkBoth_58 rfl (lv_at hl_b39 1 rfl) ?_
          refine va_iald hx hb hK hP_b39 10 6 rfl rfl (i := l1_39) ((w_b39.2 c_9).2 c_10).1 dX8_walkBoth_59 ?_
          refine lv_topi (fun x_11 ex_11 => ?_)
          have ex_11 : x_11 = v_pairs_39 l1_39.toNatClampNeg := ex_11
          refine lv_bipush (v := 60) hx hb dX8_walkBoth_60 (by decide) ?_
          refine lv_idiv hx hb dX8_walkBoth_62 (by decide) ?_
          refine lv_topi (fun x_12 ex_12 => ?_)
          have ex_12 : x_12 = x_11 / (60 : Int32) := ex_12
          refine lv_istore_n (lv' := [(2, .int x_12), (0, .ref h0), (1, .int l1_39)]) hx hb dX8_walkBoth_63 rfl hl_b39 (by decide) rfl (fun ls_13 hl_13 => ?_)
          clear hl_b39
          refine lv_aload_n hx hb dX8_walkBoth_64 rfl (lv_at hl_13 1 rfl) ?_
          refine va_get (D := (dC, dI)) (ci := 11) (v := .ref h10) (C := RX8) (T := TX8) (N := 12) hx hb ht inX8 hown hK hP_b39 0 rfl rfl 7 (by decide) (ht _ tw_769) (fun _ h9 => h9) rfl dX8_walkBoth_65 ?_
          refine lv_iload_n hx hb dX8_walkBoth_68 rfl (lv_at hl_13 2 rfl) ?_
          have w_14 := ((((w_b39.2 c_9).2 c_10).2) x_11 ex_11) x_12 ex_12
          refine va_iald hx hb hK hP_b39 10 6 rfl rfl (i := l1_39) w_14.1 dX8_walkBoth_69 ?_
          refine lv_topi (fun x_15 ex_15 => ?_)
          have ex_15 : x_15 = v_pairs_39 l1_39.toNatClampNeg := ex_15
          refine lv_bipush (v := 60) hx hb dX8_walkBoth_70 (by decide) ?_
          refine lv_irem hx hb dX8_walkBoth_72 (by decide) ?_
          refine lv_topi (fun x_16 ex_16 => ?_)
          have ex_16 : x_16 = x_15 - x_15 / (60 : Int32) * (60 : Int32) := ex_16
          refine lv_istore_n (lv' := [(3, .int x_16), (2, .int x_12), (0, .ref h0), (1, .int l1_39)]) hx hb dX8_walkBoth_73 rfl hl_13 (by decide) rfl (fun ls_17 hl_17 => ?_)
          clear hl_13
          refine lv_aload_n hx hb dX8_walkBoth_74 rfl (lv_at hl_17 2 rfl) ?_
          refine lv_iload_n hx hb dX8_walkBoth_75 rfl (lv_at hl_17 3 rfl) ?_
          refine lv_aload_n hx hb dX8_walkBoth_76 rfl (lv_at hl_17 2 rfl) ?_
          refine va_get (D := (dC, dI)) (ci := 11) (v := .ref h3) (C := RX8) (T := TX8) (N := 12) hx hb ht inX8 hown hK hP_b39 0 rfl rfl 1 (by decide) (ht _ tw_760) (fun _ h9 => h9) rfl dX8_walkBoth_77 ?_
          refine lv_iload_n hx hb dX8_walkBoth_80 rfl (lv_at hl_17 1 rfl) ?_
          have hPc_18 := vaPq hP_b39 (wsq := [(h3, .inr (12, oX9 v_one_count (.ref h13) v_one_positionCount (.ref h14) (.ref h15) (.ref h16) (.ref h17) (.ref h18) v_one_stamp (.ref h19) v_one_stackCount v_one_width (.ref h20) (.ref h4) (.ref h5) (.ref h21) (.ref h22) (.ref h23))), (h4, .inl (k1, 60, .inr (.inl v_one_ahead)))]) [3, 4] rfl
          have hDc_18 := vaDq hD_b39 (wsq := [(h3, .inr (12, oX9 v_one_count (.ref h13) v_one_positionCount (.ref h14) (.ref h15) (.ref h16) (.ref h17) (.ref h18) v_one_stamp (.ref h19) v_one_stackCount v_one_width (.ref h20) (.ref h4) (.ref h5) (.ref h21) (.ref h22) (.ref h23))), (h4, .inl (k1, 60, .inr (.inl v_one_ahead)))]) [3, 4] (by decide) rfl
          have hKc_18 := vaKq hK (tysq := [(k1, .long)]) [1] rfl
          have hFc_18 := va_free (wc := [(h3, .inr (12, oX9 v_one_count (.ref h13) v_one_positionCount (.ref h14) (.ref h15) (.ref h16) (.ref h17) (.ref h18) v_one_stamp (.ref h19) v_one_stackCount v_one_width (.ref h20) (.ref h4) (.ref h5) (.ref h21) (.ref h22) (.ref h23))), (h4, .inl (k1, 60, .inr (.inl v_one_ahead)))]) hD_b39 hS_b39 hA [3, 4] rfl
          refine va_calli (va_runV (As := [.int x_12]) (rest := [.int l1_39, .ref h0]) ⟨hx, hb, hml, hown, ht⟩ (mt_X9_ends l dC dI h3 h4 h13 h14 h15 h16 h17 h18 h19 h20 h5 h21 h22 h23 k1 x_12 v_one_count v_one_positionCount v_one_stamp v_one_stackCount v_one_width v_one_ahead _ (w_14.2 x_15 ex_15 x_16 ex_16) H_b39.size) (cwV 1 ht (goodV tw_1949 tw_1892 tw_1893 tw_248 gw_X9_ends) rfl rfl rfl (by decide +kernel) ⟨Nat.le_of_ble_eq_true rfl, Nat.le_of_ble_eq_true rfl⟩) ⟨fun a U g mk q => by obtain ⟨q0, q1, qP, qK, qD⟩ := q; exact ⟨q0, q1, qP, va_K.moved (u := U) (U := U.calling g mk a) (Vm.Alike.refl U.vm) qK, qD⟩, va_recv hKc_18 hPc_18 (ci := 12) (q0 := 0) rfl rfl, fun U hU hW => ⟨rfl, by rw [hU], by rw [hU]; exact hPc_18, va_K.moved hW.alike hKc_18, hDc_18.weaken (fun _ _ _ _ => trivial)⟩⟩ rfl rfl hl_17.1 rfl (lv_room (Nat.le_of_ble_eq_true rfl)) dX8_walkBoth_81 ⟨Nat.le_of_ble_eq_true rfl, Nat.le_of_ble_eq_true rfl⟩) hS_b39 (fun q _ h => hFc_18 q h) hFc_18 (fun r_18 u_18 t_18 H_18 locs_18 ht_18 hvm_18 hw_18 hB_18 hz_18 hk_18 hS_18 => ?_)
          subst hw_18
          obtain ⟨w_18, hP1_18, hD1_18⟩ := hB_18
          rw [ht_18] at hP1_18
          obtain ⟨hP_18, hD_18⟩ := va_join (wr := [(h0, .inr (11, oX8 (.ref h1) (.ref h3) (.ref h6) v_onlyInOne_39 v_onlyInOther_39 (.ref h9) v_stamp_39 (.ref h10) (.ref h11) (.ref h12) v_pairCount_39 v_parted_39)), (h1, .inr (3, oX0 v_alphabet_count (.ref h2))), (h2, .inl (k0, 256, .inl v_alphabet_begins)), (h5, .inl (k2, 15360, .inl v_one_goes)), (h6, .inr (12, oX9 v_other_count (.ref h24) v_other_positionCount (.ref h25) (.ref h26) (.ref h27) (.ref h28) (.ref h29) v_other_stamp (.ref h30) v_other_stackCount v_other_width (.ref h31) (.ref h7) (.ref h8) (.ref h32) (.ref h33) (.ref h34))), (h7, .inl (k3, 60, .inr (.inl v_other_ahead))), (h8, .inl (k4, 15360, .inl v_other_goes)), (h9, .inl (k5, 3600, .inl v_met_39)), (h10, .inl (k6, 3600, .inl v_pairs_39)), (h11, .inl (k7, 3600, .inl v_cameFrom_39)), (h12, .inl (k8, 3600, .inl v_cameBy_39))]) (w1 := [(h3, .inr (12, oX9 v_one_count (.ref h13) v_one_positionCount (.ref h14) (.ref h15) (.ref h16) (.ref h17) (.ref h18) v_one_stamp (.ref h19) v_one_stackCount v_one_width (.ref h20) (.ref h4) (.ref h5) (.ref h21) (.ref h22) (.ref h23))), (h4, .inl (k1, 60, .inr (.inl v_one_ahead)))]) hP_b39 hD_b39 [3, 4] [0, 1, 2, 5, 6, 7, 8, 9, 10, 11, 12] rfl rfl (by decide) (by decide) hk_18 hFc_18 hP1_18 hD1_18
          have hP_18 := vaPq hP_18 (wsq := [(h0, .inr (11, oX8 (.ref h1) (.ref h3) (.ref h6) v_onlyInOne_39 v_onlyInOther_39 (.ref h9) v_stamp_39 (.ref h10) (.ref h11) (.ref h12) v_pairCount_39 v_parted_39)), (h1, .inr (3, oX0 v_alphabet_count (.ref h2))), (h2, .inl (k0, 256, .inl v_alphabet_begins)), (h3, .inr (12, oX9 v_one_count (.ref h13) v_one_positionCount (.ref h14) (.ref h15) (.ref h16) (.ref h17) (.ref h18) v_one_stamp (.ref h19) v_one_stackCount v_one_width (.ref h20) (.ref h4) (.ref h5) (.ref h21) (.ref h22) (.ref h23))), (h4, .inl (k1, 60, .inr (.inl v_one_ahead))), (h5, .inl (k2, 15360, .inl v_one_goes)), (h6, .inr (12, oX9 v_other_count (.ref h24) v_other_positionCount (.ref h25) (.ref h26) (.ref h27) (.ref h28) (.ref h29) v_other_stamp (.ref h30) v_other_stackCount v_other_width (.ref h31) (.ref h7) (.ref h8) (.ref h32) (.ref h33) (.ref h34))), (h7, .inl (k3, 60, .inr (.inl v_other_ahead))), (h8, .inl (k4, 15360, .inl v_other_goes)), (h9, .inl (k5, 3600, .inl v_met_39)), (h10, .inl (k6, 3600, .inl v_pairs_39)), (h11, .inl (k7, 3600, .inl v_cameFrom_39)), (h12, .inl (k8, 3600, .inl v_cameBy_39))]) [0, 1, 2, 11, 12, 3, 4, 5, 6, 7, 8, 9, 10] rfl
          have hD_18 := vaDq hD_18 (wsq := [(h0, .inr (11, oX8 (.ref h1) (.ref h3) (.ref h6) v_onlyInOne_39 v_onlyInOther_39 (.ref h9) v_stamp_39 (.ref h10) (.ref h11) (.ref h12) v_pairCount_39 v_parted_39)), (h1, .inr (3, oX0 v_alphabet_count (.ref h2))), (h2, .inl (k0, 256, .inl v_alphabet_begins)), (h3, .inr (12, oX9 v_one_count (.ref h13) v_one_positionCount (.ref h14) (.ref h15) (.ref h16) (.ref h17) (.ref h18) v_one_stamp (.ref h19) v_one_stackCount v_one_width (.ref h20) (.ref h4) (.ref h5) (.ref h21) (.ref h22) (.ref h23))), (h4, .inl (k1, 60, .inr (.inl v_one_ahead))), (h5, .inl (k2, 15360, .inl v_one_goes)), (h6, .inr (12, oX9 v_other_count (.ref h24) v_other_positionCount (.ref h25) (.ref h26) (.ref h27) (.ref h28) (.ref h29) v_other_stamp (.ref h30) v_other_stackCount v_other_width (.ref h31) (.ref h7) (.ref h8) (.ref h32) (.ref h33) (.ref h34))), (h7, .inl (k3, 60, .inr (.inl v_other_ahead))), (h8, .inl (k4, 15360, .inl v_other_goes)), (h9, .inl (k5, 3600, .inl v_met_39)), (h10, .inl (k6, 3600, .inl v_pairs_39)), (h11, .inl (k7, 3600, .inl v_cameFrom_39)), (h12, .inl (k8, 3600, .inl v_cameBy_39))]) [0, 1, 2, 11, 12, 3, 4, 5, 6, 7, 8, 9, 10] (by decide) rfl
          clear hPc_18 hDc_18 hKc_18 hFc_18 hP1_18 hD1_18 hk_18 hz_18
          refine lv_aload_n hx hb dX8_walkBoth_84 rfl (lv_at hl_17 2 rfl) ?_
          refine va_get (D := (dC, dI)) (ci := 11) (v := .ref h6) (C := RX8) (T := TX8) (N := 12) hx hb ht inX8 hown hK hP_18 0 rfl rfl 2 (by decide) (ht _ tw_762) (fun _ h9 => h9) rfl dX8_walkBoth_85 ?_
          refine lv_iload_n hx hb dX8_walkBoth_88 rfl (lv_at hl_17 0 rfl) ?_
          have hPc_19 := vaPq hP_18 (wsq := [(h6, .inr (12, oX9 v_other_count (.ref h24) v_other_positionCount (.ref h25) (.ref h26) (.ref h27) (.ref h28) (.ref h29) v_other_stamp (.ref h30) v_other_stackCount v_other_width (.ref h31) (.ref h7) (.ref h8) (.ref h32) (.ref h33) (.ref h34))), (h7, .inl (k3, 60, .inr (.inl v_other_ahead)))]) [6, 7] rfl
          have hDc_19 := vaDq hD_18 (wsq := [(h6, .inr (12, oX9 v_other_count (.ref h24) v_other_positionCount (.ref h25) (.ref h26) (.ref h27) (.ref h28) (.ref h29) v_other_stamp (.ref h30) v_other_stackCount v_other_width (.ref h31) (.ref h7) (.ref h8) (.ref h32) (.ref h33) (.ref h34))), (h7, .inl (k3, 60, .inr (.inl v_other_ahead)))]) [6, 7] (by decide) rfl
          have hKc_19 := vaKq hK (tysq := [(k3, .long)]) [3] rfl
          have hFc_19 := va_free (wc := [(h6, .inr (12, oX9 v_other_count (.ref h24) v_other_positionCount (.ref h25) (.ref h26) (.ref h27) (.ref h28) (.ref h29) v_other_stamp (.ref h30) v_other_stackCount v_other_width (.ref h31) (.ref h7) (.ref h8) (.ref h32) (.ref h33) (.ref h34))), (h7, .inl (k3, 60, .inr (.inl v_other_ahead)))]) hD_18 hS_18 hA [6, 7] rfl
          refine va_calli (va_runV (As := [.int x_16]) (rest := [.int r_18, .int l1_39, .ref h0]) ⟨hx, hb, hml, hown, ht⟩ (mt_X9_ends l dC dI h6 h7 h24 h25 h26 h27 h28 h29 h30 h31 h8 h32 h33 h34 k3 x_16 v_other_count v_other_positionCount v_other_stamp v_other_stackCount v_other_width v_other_ahead _ w_18 H_18.size) (cwV 1 ht (goodV tw_1949 tw_1892 tw_1893 tw_248 gw_X9_ends) rfl rfl rfl (by decide +kernel) ⟨Nat.le_of_ble_eq_true rfl, Nat.le_of_ble_eq_true rfl⟩) ⟨fun a U g mk q => by obtain ⟨q0, q1, qP, qK, qD⟩ := q; exact ⟨q0, q1, qP, va_K.moved (u := U) (U := U.calling g mk a) (Vm.Alike.refl U.vm) qK, qD⟩, va_recv hKc_19 hPc_19 (ci := 12) (q0 := 0) rfl rfl, fun U hU hW => ⟨rfl, by rw [hU], by rw [hU]; exact hPc_19, va_K.moved hW.alike hKc_19, hDc_19.weaken (fun _ _ _ _ => trivial)⟩⟩ rfl rfl hl_17.1 rfl (lv_room (Nat.le_of_ble_eq_true rfl)) dX8_walkBoth_89 ⟨Nat.le_of_ble_eq_true rfl, Nat.le_of_ble_eq_true rfl⟩) hS_18 (fun q _ h => hFc_19 q h) hFc_19 (fun r_19 u_19 t_19 H_19 locs_19 ht_19 hvm_19 hw_19 hB_19 hz_19 hk_19 hS_19 => ?_)
          subst hw_19
          obtain ⟨w_19, hP1_19, hD1_19⟩ := hB_19
          rw [ht_19] at hP1_19
          obtain ⟨hP_19, hD_19⟩ := va_join (wr := [(h0, .inr (11, oX8 (.ref h1) (.ref h3) (.ref h6) v_onlyInOne_39 v_onlyInOther_39 (.ref h9) v_stamp_39 (.ref h10) (.ref h11) (.ref h12) v_pairCount_39 v_parted_39)), (h1, .inr (3, oX0 v_alphabet_count (.ref h2))), (h2, .inl (k0, 256, .inl v_alphabet_begins)), (h3, .inr (12, oX9 v_one_count (.ref h13) v_one_positionCount (.ref h14) (.ref h15) (.ref h16) (.ref h17) (.ref h18) v_one_stamp (.ref h19) v_one_stackCount v_one_width (.ref h20) (.ref h4) (.ref h5) (.ref h21) (.ref h22) (.ref h23))), (h4, .inl (k1, 60, .inr (.inl v_one_ahead))), (h5, .inl (k2, 15360, .inl v_one_goes)), (h8, .inl (k4, 15360, .inl v_other_goes)), (h9, .inl (k5, 3600, .inl v_met_39)), (h10, .inl (k6, 3600, .inl v_pairs_39)), (h11, .inl (k7, 3600, .inl v_cameFrom_39)), (h12, .inl (k8, 3600, .inl v_cameBy_39))]) (w1 := [(h6, .inr (12, oX9 v_other_count (.ref h24) v_other_positionCount (.ref h25) (.ref h26) (.ref h27) (.ref h28) (.ref h29) v_other_stamp (.ref h30) v_other_stackCount v_other_width (.ref h31) (.ref h7) (.ref h8) (.ref h32) (.ref h33) (.ref h34))), (h7, .inl (k3, 60, .inr (.inl v_other_ahead)))]) hP_18 hD_18 [6, 7] [0, 1, 2, 3, 4, 5, 8, 9, 10, 11, 12] rfl rfl (by decide) (by decide) hk_19 hFc_19 hP1_19 hD1_19
          have hP_19 := vaPq hP_19 (wsq := [(h0, .inr (11, oX8 (.ref h1) (.ref h3) (.ref h6) v_onlyInOne_39 v_onlyInOther_39 (.ref h9) v_stamp_39 (.ref h10) (.ref h11) (.ref h12) v_pairCount_39 v_parted_39)), (h1, .inr (3, oX0 v_alphabet_count (.ref h2))), (h2, .inl (k0, 256, .inl v_alphabet_begins)), (h3, .inr (12, oX9 v_one_count (.ref h13) v_one_positionCount (.ref h14) (.ref h15) (.ref h16) (.ref h17) (.ref h18) v_one_stamp (.ref h19) v_one_stackCount v_one_width (.ref h20) (.ref h4) (.ref h5) (.ref h21) (.ref h22) (.ref h23))), (h4, .inl (k1, 60, .inr (.inl v_one_ahead))), (h5, .inl (k2, 15360, .inl v_one_goes)), (h6, .inr (12, oX9 v_other_count (.ref h24) v_other_positionCount (.ref h25) (.ref h26) (.ref h27) (.ref h28) (.ref h29) v_other_stamp (.ref h30) v_other_stackCount v_other_width (.ref h31) (.ref h7) (.ref h8) (.ref h32) (.ref h33) (.ref h34))), (h7, .inl (k3, 60, .inr (.inl v_other_ahead))), (h8, .inl (k4, 15360, .inl v_other_goes)), (h9, .inl (k5, 3600, .inl v_met_39)), (h10, .inl (k6, 3600, .inl v_pairs_39)), (h11, .inl (k7, 3600, .inl v_cameFrom_39)), (h12, .inl (k8, 3600, .inl v_cameBy_39))]) [0, 1, 2, 3, 4, 5, 11, 12, 6, 7, 8, 9, 10] rfl
          have hD_19 := vaDq hD_19 (wsq := [(h0, .inr (11, oX8 (.ref h1) (.ref h3) (.ref h6) v_onlyInOne_39 v_onlyInOther_39 (.ref h9) v_stamp_39 (.ref h10) (.ref h11) (.ref h12) v_pairCount_39 v_parted_39)), (h1, .inr (3, oX0 v_alphabet_count (.ref h2))), (h2, .inl (k0, 256, .inl v_alphabet_begins)), (h3, .inr (12, oX9 v_one_count (.ref h13) v_one_positionCount (.ref h14) (.ref h15) (.ref h16) (.ref h17) (.ref h18) v_one_stamp (.ref h19) v_one_stackCount v_one_width (.ref h20) (.ref h4) (.ref h5) (.ref h21) (.ref h22) (.ref h23))), (h4, .inl (k1, 60, .inr (.inl v_one_ahead))), (h5, .inl (k2, 15360, .inl v_one_goes)), (h6, .inr (12, oX9 v_other_count (.ref h24) v_other_positionCount (.ref h25) (.ref h26) (.ref h27) (.ref h28) (.ref h29) v_other_stamp (.ref h30) v_other_stackCount v_other_width (.ref h31) (.ref h7) (.ref h8) (.ref h32) (.ref h33) (.ref h34))), (h7, .inl (k3, 60, .inr (.inl v_other_ahead))), (h8, .inl (k4, 15360, .inl v_other_goes)), (h9, .inl (k5, 3600, .inl v_met_39)), (h10, .inl (k6, 3600, .inl v_pairs_39)), (h11, .inl (k7, 3600, .inl v_cameFrom_39)), (h12, .inl (k8, 3600, .inl v_cameBy_39))]) [0, 1, 2, 3, 4, 5, 11, 12, 6, 7, 8, 9, 10] (by decide) rfl
          clear hPc_19 hDc_19 hKc_19 hFc_19 hP1_19 hD1_19 hk_19 hz_19
          have hPc_20 := vaPq hP_19 (wsq := [(h0, .inr (11, oX8 (.ref h1) (.ref h3) (.ref h6) v_onlyInOne_39 v_onlyInOther_39 (.ref h9) v_stamp_39 (.ref h10) (.ref h11) (.ref h12) v_pairCount_39 v_parted_39))]) [0] rfl
          have hDc_20 := vaDq hD_19 (wsq := [(h0, .inr (11, oX8 (.ref h1) (.ref h3) (.ref h6) v_onlyInOne_39 v_onlyInOther_39 (.ref h9) v_stamp_39 (.ref h10) (.ref h11) (.ref h12) v_pairCount_39 v_parted_39))]) [0] (by decide) rfl
          have hKc_20 := vaKq hK (tysq := []) [] rfl
          have hFc_20 := va_free (wc := [(h0, .inr (11, oX8 (.ref h1) (.ref h3) (.ref h6) v_onlyInOne_39 v_onlyInOther_39 (.ref h9) v_stamp_39 (.ref h10) (.ref h11) (.ref h12) v_pairCount_39 v_parted_39))]) hD_19 hS_19 hA [0] rfl
          refine va_callv (va_runV (As := [.int l1_39, .int r_18, .int r_19]) (rest := []) ⟨hx, hb, hml, hown, ht⟩ (mt_X8_look l dC dI h0 h1 h3 h6 h9 h10 h11 h12 l1_39 r_18 r_19 v_onlyInOne_39 v_onlyInOther_39 v_stamp_39 v_pairCount_39 v_parted_39 _ w_19 H_19.size) (cwV 3 ht (goodV tw_1950 tw_1952 tw_143 tw_246 gw_X8_look) rfl rfl rfl (by decide +kernel) ⟨Nat.le_of_ble_eq_true rfl, Nat.le_of_ble_eq_true rfl⟩) ⟨fun a U g mk q => by obtain ⟨q0, q1, qP, qK, qD⟩ := q; exact ⟨q0, q1, qP, va_K.moved (u := U) (U := U.calling g mk a) (Vm.Alike.refl U.vm) qK, qD⟩, va_recv hKc_20 hPc_20 (ci := 11) (q0 := 0) rfl rfl, fun U hU hW => ⟨rfl, by rw [hU], by rw [hU]; exact hPc_20, va_K.moved hW.alike hKc_20, hDc_20.weaken (fun _ _ _ _ => trivial)⟩⟩ rfl rfl hl_17.1 rfl (lv_room (Nat.le_of_ble_eq_true rfl)) dX8_walkBoth_92 ⟨Nat.le_of_ble_eq_true rfl, Nat.le_of_ble_eq_true rfl⟩) hS_19 (fun q _ h => hFc_20 q h) hFc_20 (fun u_20 t_20 H_20 locs_20 ht_20 hvm_20 hw_20 hB_20 hz_20 hk_20 hS_20 => ?_)
          subst hw_20
          obtain ⟨r_20_0, r_20_1, r_20_2, w_20, hP1_20, hD1_20⟩ := hB_20
          rw [ht_20] at hP1_20
          obtain ⟨hP_20, hD_20⟩ := va_join (wr := [(h1, .inr (3, oX0 v_alphabet_count (.ref h2))), (h2, .inl (k0, 256, .inl v_alphabet_begins)), (h3, .inr (12, oX9 v_one_count (.ref h13) v_one_positionCount (.ref h14) (.ref h15) (.ref h16) (.ref h17) (.ref h18) v_one_stamp (.ref h19) v_one_stackCount v_one_width (.ref h20) (.ref h4) (.ref h5) (.ref h21) (.ref h22) (.ref h23))), (h4, .inl (k1, 60, .inr (.inl v_one_ahead))), (h5, .inl (k2, 15360, .inl v_one_goes)), (h6, .inr (12, oX9 v_other_count (.ref h24) v_other_positionCount (.ref h25) (.ref h26) (.ref h27) (.ref h28) (.ref h29) v_other_stamp (.ref h30) v_other_stackCount v_other_width (.ref h31) (.ref h7) (.ref h8) (.ref h32) (.ref h33) (.ref h34))), (h7, .inl (k3, 60, .inr (.inl v_other_ahead))), (h8, .inl (k4, 15360, .inl v_other_goes)), (h9, .inl (k5, 3600, .inl v_met_39)), (h10, .inl (k6, 3600, .inl v_pairs_39)), (h11, .inl (k7, 3600, .inl v_cameFrom_39)), (h12, .inl (k8, 3600, .inl v_cameBy_39))]) (w1 := [(h0, .inr (11, oX8 (.ref h1) (.ref h3) (.ref h6) r_20_0 r_20_1 (.ref h9) v_stamp_39 (.ref h10) (.ref h11) (.ref h12) v_pairCount_39 r_20_2))]) hP_19 hD_19 [0] [1, 2, 3, 4, 5, 6, 7, 8, 9, 10, 11, 12] rfl rfl (by decide) (by decide) hk_20 hFc_20 hP1_20 hD1_20
          have hP_20 := vaPq hP_20 (wsq := [(h0, .inr (11, oX8 (.ref h1) (.ref h3) (.ref h6) r_20_0 r_20_1 (.ref h9) v_stamp_39 (.ref h10) (.ref h11) (.ref h12) v_pairCount_39 r_20_2)), (h1, .inr (3, oX0 v_alphabet_count (.ref h2))), (h2, .inl (k0, 256, .inl v_alphabet_begins)), (h3, .inr (12, oX9 v_one_count (.ref h13) v_one_positionCount (.ref h14) (.ref h15) (.ref h16) (.ref h17) (.ref h18) v_one_stamp (.ref h19) v_one_stackCount v_one_width (.ref h20) (.ref h4) (.ref h5) (.ref h21) (.ref h22) (.ref h23))), (h4, .inl (k1, 60, .inr (.inl v_one_ahead))), (h5, .inl (k2, 15360, .inl v_one_goes)), (h6, .inr (12, oX9 v_other_count (.ref h24) v_other_positionCount (.ref h25) (.ref h26) (.ref h27) (.ref h28) (.ref h29) v_other_stamp (.ref h30) v_other_stackCount v_other_width (.ref h31) (.ref h7) (.ref h8) (.ref h32) (.ref h33) (.ref h34))), (h7, .inl (k3, 60, .inr (.inl v_other_ahead))), (h8, .inl (k4, 15360, .inl v_other_goes)), (h9, .inl (k5, 3600, .inl v_met_39)), (h10, .inl (k6, 3600, .inl v_pairs_39)), (h11, .inl (k7, 3600, .inl v_cameFrom_39)), (h12, .inl (k8, 3600, .inl v_cameBy_39))]) [12, 0, 1, 2, 3, 4, 5, 6, 7, 8, 9, 10, 11] rfl
          have hD_20 := vaDq hD_20 (wsq := [(h0, .inr (11, oX8 (.ref h1) (.ref h3) (.ref h6) r_20_0 r_20_1 (.ref h9) v_stamp_39 (.ref h10) (.ref h11) (.ref h12) v_pairCount_39 r_20_2)), (h1, .inr (3, oX0 v_alphabet_count (.ref h2))), (h2, .inl (k0, 256, .inl v_alphabet_begins)), (h3, .inr (12, oX9 v_one_count (.ref h13) v_one_positionCount (.ref h14) (.ref h15) (.ref h16) (.ref h17) (.ref h18) v_one_stamp (.ref h19) v_one_stackCount v_one_width (.ref h20) (.ref h4) (.ref h5) (.ref h21) (.ref h22) (.ref h23))), (h4, .inl (k1, 60, .inr (.inl v_one_ahead))), (h5, .inl (k2, 15360, .inl v_one_goes)), (h6, .inr (12, oX9 v_other_count (.ref h24) v_other_positionCount (.ref h25) (.ref h26) (.ref h27) (.ref h28) (.ref h29) v_other_stamp (.ref h30) v_other_stackCount v_other_width (.ref h31) (.ref h7) (.ref h8) (.ref h32) (.ref h33) (.ref h34))), (h7, .inl (k3, 60, .inr (.inl v_other_ahead))), (h8, .inl (k4, 15360, .inl v_other_goes)), (h9, .inl (k5, 3600, .inl v_met_39)), (h10, .inl (k6, 3600, .inl v_pairs_39)), (h11, .inl (k7, 3600, .inl v_cameFrom_39)), (h12, .inl (k8, 3600, .inl v_cameBy_39))]) [12, 0, 1, 2, 3, 4, 5, 6, 7, 8, 9, 10, 11] (by decide) rfl
          clear hPc_20 hDc_20 hKc_20 hFc_20 hP1_20 hD1_20 hk_20 hz_20
          refine lv_iconst (v := 0) hx hb dX8_walkBoth_95 (by decide) ?_
          refine lv_istore (lv' := [(4, .int 0), (3, .int x_16), (2, .int x_12), (0, .ref h0), (1, .int l1_39)]) hx hb dX8_walkBoth_96 hl_17 (by decide) rfl (fun ls_21 hl_21 => ?_)
          clear hl_17
          have k_98 : ∀ (l1_98 : Int32) (l2_98 : Int32) (l3_98 : Int32) (v_onlyInOne_98 : Bool) (v_onlyInOther_98 : Bool) (v_parted_98 : Int32), ∀ n_98 : Nat, ∀ (l4_98 : Int32) (v_pairCount_98 : Int32) (v_met_98 : Nat → Int32) (v_pairs_98 : Nat → Int32) (v_cameFrom_98 : Nat → Int32) (v_cameBy_98 : Nat → Int32), ∀ (H_b98 : Heap) (locs_b98 : List Loc) (ls_b98 : Array Slot), w_X8_walkBoth_98 v_alphabet_count v_alphabet_begins v_one_count v_one_width v_one_goes v_other_count v_other_width v_other_goes v_stamp_39 Q (w_X8_walkBoth_39 v_alphabet_count v_alphabet_begins v_one_count v_one_width v_one_ahead v_one_goes v_other_count v_other_width v_other_ahead v_other_goes Q v_stamp_39 n_39) l1_98 l2_98 l3_98 v_onlyInOne_98 v_onlyInOther_98 v_parted_98 n_98 l4_98 v_pairCount_98 v_met_98 v_pairs_98 v_cameFrom_98 v_cameBy_98 → va_P (dC, dI) vwCl [(h0, .inr (11, oX8 (.ref h1) (.ref h3) (.ref h6) v_onlyInOne_98 v_onlyInOther_98 (.ref h9) v_stamp_39 (.ref h10) (.ref h11) (.ref h12) v_pairCount_98 v_parted_98)), (h1, .inr (3, oX0 v_alphabet_count (.ref h2))), (h2, .inl (k0, 256, .inl v_alphabet_begins)), (h3, .inr (12, oX9 v_one_count (.ref h13) v_one_positionCount (.ref h14) (.ref h15) (.ref h16) (.ref h17) (.ref h18) v_one_stamp (.ref h19) v_one_stackCount v_one_width (.ref h20) (.ref h4) (.ref h5) (.ref h21) (.ref h22) (.ref h23))), (h4, .inl (k1, 60, .inr (.inl v_one_ahead))), (h5, .inl (k2, 15360, .inl v_one_goes)), (h6, .inr (12, oX9 v_other_count (.ref h24) v_other_positionCount (.ref h25) (.ref h26) (.ref h27) (.ref h28) (.ref h29) v_other_stamp (.ref h30) v_other_stackCount v_other_width (.ref h31) (.ref h7) (.ref h8) (.ref h32) (.ref h33) (.ref h34))), (h7, .inl (k3, 60, .inr (.inl v_other_ahead))), (h8, .inl (k4, 15360, .inl v_other_goes)), (h9, .inl (k5, 3600, .inl v_met_98)), (h10, .inl (k6, 3600, .inl v_pairs_98)), (h11, .inl (k7, 3600, .inl v_cameFrom_98)), (h12, .inl (k8, 3600, .inl v_cameBy_98))] H_b98 → va_D A [(h0, .inr (11, oX8 (.ref h1) (.ref h3) (.ref h6) v_onlyInOne_98 v_onlyInOther_98 (.ref h9) v_stamp_39 (.ref h10) (.ref h11) (.ref h12) v_pairCount_98 v_parted_98)), (h1, .inr (3, oX0 v_alphabet_count (.ref h2))), (h2, .inl (k0, 256, .inl v_alphabet_begins)), (h3, .inr (12, oX9 v_one_count (.ref h13) v_one_positionCount (.ref h14) (.ref h15) (.ref h16) (.ref h17) (.ref h18) v_one_stamp (.ref h19) v_one_stackCount v_one_width (.ref h20) (.ref h4) (.ref h5) (.ref h21) (.ref h22) (.ref h23))), (h4, .inl (k1, 60, .inr (.inl v_one_ahead))), (h5, .inl (k2, 15360, .inl v_one_goes)), (h6, .inr (12, oX9 v_other_count (.ref h24) v_other_positionCount (.ref h25) (.ref h26) (.ref h27) (.ref h28) (.ref h29) v_other_stamp (.ref h30) v_other_stackCount v_other_width (.ref h31) (.ref h7) (.ref h8) (.ref h32) (.ref h33) (.ref h34))), (h7, .inl (k3, 60, .inr (.inl v_other_ahead))), (h8, .inl (k4, 15360, .inl v_other_goes)), (h9, .inl (k5, 3600, .inl v_met_98)), (h10, .inl (k6, 3600, .inl v_pairs_98)), (h11, .inl (k7, 3600, .inl v_cameFrom_98)), (h12, .inl (k8, 3600, .inl v_cameBy_98))] → va_S A s.heap H_b98 locs_b98 → lv_has ls_b98 5 [(0, .ref h0), (1, .int l1_98), (2, .int l2_98), (3, .int l3_98), (4, .int l4_98)] → W p l e ({ frames := 1, cells := 0, slots := 0, locals := 23 } : Room) s m ([.ref h0]).toArray below meth c H_b98 locs_b98 0 0 QQ (F0 m 98 ls_b98 []) := by
            intro l1_98 l2_98 l3_98 v_onlyInOne_98 v_onlyInOther_98 v_parted_98
            intro n_98
            induction n_98 with
            | zero =>
              intro l4_98 v_pairCount_98 v_met_98 v_pairs_98 v_cameFrom_98 v_cameBy_98 H_b98 locs_b98 ls_b98 w_b98 hP_b98 hD_b98 hS_b98 hl_b98
              exact False.elim (by unfold w_X8_walkBoth_98 at w_b98; exact w_b98)
            | succ n_98 ih_98 =>
              intro l4_98 v_pairCount_98 v_met_98 v_pairs_98 v_cameFrom_98 v_cameBy_98 H_b98 locs_b98 ls_b98 w_b98 hP_b98 hD_b98 hS_b98 hl_b98
              unfold w_X8_walkBoth_98 at w_b98
              unfold w_X8_walkBoth_98B at w_b98
              refine lv_iload hx hb dX8_walkBoth_98 (lv_at hl_b98 4 rfl) ?_
              refine lv_aload_n hx hb dX8_walkBoth_100 rfl (lv_at hl_b98 0 rfl) ?_
              refine va_get (D := (dC, dI)) (ci := 11) (v := .ref h1) (C := RX8) (T := TX8) (N := 12) hx hb ht inX8 hown hK hP_b98 0 rfl rfl 0 (by decide) (ht _ tw_758) (fun _ h9 => h9) rfl dX8_walkBoth_101 ?_
              refine va_get (D := (dC, dI)) (ci := 3) (v := .int v_alphabet_count) (C := RX0) (T := TX0) (N := 2) hx hb ht inX0 hown hK hP_b98 1 rfl rfl 0 (by decide) (ht _ tw_685) (fun _ h9 => h9) rfl dX8_walkBoth_104 ?_
              refine lv_icmp_ge (tgt := 154) hx hb dX8_walkBoth_107 (by decide) (fun c_22 => ?_) (fun c_22 => ?_)
              · obtain ⟨x_23, ex_23⟩ : ∃ y : Int32, y = l1_98 + 1 := ⟨_, rfl⟩
                refine lv_iinc (v := x_23) (lv' := [(1, .int x_23), (0, .ref h0), (2, .int l2_98), (3, .int l3_98), (4, .int l4_98)]) hx hb dX8_walkBoth_154 hl_b98 (k := 1) rfl ex_23.symm (by decide) rfl (fun ls_23 hl_23 => ?_)
                refine lv_goto (tgt := 39) hx hb dX8_walkBoth_157 (by decide) ?_
                exact ih_39 x_23 v_onlyInOne_98 v_onlyInOther_98 v_pairCount_98 v_parted_98 v_met_98 v_pairs_98 v_cameFrom_98 v_cameBy_98 _ _ _ (w_b98.1 c_22 x_23 ex_23) hP_b98 hD_b98 hS_b98 (lv_sub hl_23 [1, 0] rfl)
              · refine lv_aload_n hx hb dX8_walkBoth_110 rfl (lv_at hl_b98 0 rfl) ?_
                refine lv_aload_n hx hb dX8_walkBoth_111 rfl (lv_at hl_b98 0 rfl) ?_
                refine va_get (D := (dC, dI)) (ci := 11) (v := .ref h3) (C := RX8) (T := TX8) (N := 12) hx hb ht inX8 hown hK hP_b98 0 rfl rfl 1 (by decide) (ht _ tw_760) (fun _ h9 => h9) rfl dX8_walkBoth_112 ?_
                refine lv_iload_n hx hb dX8_walkBoth_115 rfl (lv_at hl_b98 2 rfl) ?_
                refine lv_iload hx hb dX8_walkBoth_116 (lv_at hl_b98 4 rfl) ?_
                have hPc_24 := vaPq hP_b98 (wsq := [(h3, .inr (12, oX9 v_one_count (.ref h13) v_one_positionCount (.ref h14) (.ref h15) (.ref h16) (.ref h17) (.ref h18) v_one_stamp (.ref h19) v_one_stackCount v_one_width (.ref h20) (.ref h4) (.ref h5) (.ref h21) (.ref h22) (.ref h23))), (h5, .inl (k2, 15360, .inl v_one_goes))]) [3, 5] rfl
                have hDc_24 := vaDq hD_b98 (wsq := [(h3, .inr (12, oX9 v_one_count (.ref h13) v_one_positionCount (.ref h14) (.ref h15) (.ref h16) (.ref h17) (.ref h18) v_one_stamp (.ref h19) v_one_stackCount v_one_width (.ref h20) (.ref h4) (.ref h5) (.ref h21) (.ref h22) (.ref h23))), (h5, .inl (k2, 15360, .inl v_one_goes))]) [3, 5] (by decide) rfl
                have hKc_24 := vaKq hK (tysq := [(k2, .int)]) [2] rfl
                have hFc_24 := va_free (wc := [(h3, .inr (12, oX9 v_one_count (.ref h13) v_one_positionCount (.ref h14) (.ref h15) (.ref h16) (.ref h17) (.ref h18) v_one_stamp (.ref h19) v_one_stackCount v_one_width (.ref h20) (.ref h4) (.ref h5) (.ref h21) (.ref h22) (.ref h23))), (h5, .inl (k2, 15360, .inl v_one_goes))]) hD_b98 hS_b98 hA [3, 5] rfl
                refine va_calli (va_runV (As := [.int l2_98, .int l4_98]) (rest := [.ref h0]) ⟨hx, hb, hml, hown, ht⟩ (mt_X9_next l dC dI h3 h5 h13 h14 h15 h16 h17 h18 h19 h20 h4 h21 h22 h23 k2 l2_98 l4_98 v_one_count v_one_positionCount v_one_stamp v_one_stackCount v_one_width v_one_goes _ (w_b98.2 c_22) H_b98.size) (cwV 2 ht (goodV tw_1954 tw_1900 tw_1901 tw_248 gw_X9_next) rfl rfl rfl (by decide +kernel) ⟨Nat.le_of_ble_eq_true rfl, Nat.le_of_ble_eq_true rfl⟩) ⟨fun a U g mk q => by obtain ⟨q0, q1, qP, qK, qD⟩ := q; exact ⟨q0, q1, qP, va_K.moved (u := U) (U := U.calling g mk a) (Vm.Alike.refl U.vm) qK, qD⟩, va_recv hKc_24 hPc_24 (ci := 12) (q0 := 0) rfl rfl, fun U hU hW => ⟨rfl, by rw [hU], by rw [hU]; exact hPc_24, va_K.moved hW.alike hKc_24, hDc_24.weaken (fun _ _ _ _ => trivial)⟩⟩ rfl rfl hl_b98.1 rfl (lv_room (Nat.le_of_ble_eq_true rfl)) dX8_walkBoth_118 ⟨Nat.le_of_ble_eq_true rfl, Nat.le_of_ble_eq_true rfl⟩) hS_b98 (fun q _ h => hFc_24 q h) hFc_24 (fun r_24 u_24 t_24 H_24 locs_24 ht_24 hvm_24 hw_24 hB_24 hz_24 hk_24 hS_24 => ?_)
                subst hw_24
                obtain ⟨w_24, hP1_24, hD1_24⟩ := hB_24
                rw [ht_24] at hP1_24
                obtain ⟨hP_24, hD_24⟩ := va_join (wr := [(h0, .inr (11, oX8 (.ref h1) (.ref h3) (.ref h6) v_onlyInOne_98 v_onlyInOther_98 (.ref h9) v_stamp_39 (.ref h10) (.ref h11) (.ref h12) v_pairCount_98 v_parted_98)), (h1, .inr (3, oX0 v_alphabet_count (.ref h2))), (h2, .inl (k0, 256, .inl v_alphabet_begins)), (h4, .inl (k1, 60, .inr (.inl v_one_ahead))), (h6, .inr (12, oX9 v_other_count (.ref h24) v_other_positionCount (.ref h25) (.ref h26) (.ref h27) (.ref h28) (.ref h29) v_other_stamp (.ref h30) v_other_stackCount v_other_width (.ref h31) (.ref h7) (.ref h8) (.ref h32) (.ref h33) (.ref h34))), (h7, .inl (k3, 60, .inr (.inl v_other_ahead))), (h8, .inl (k4, 15360, .inl v_other_goes)), (h9, .inl (k5, 3600, .inl v_met_98)), (h10, .inl (k6, 3600, .inl v_pairs_98)), (h11, .inl (k7, 3600, .inl v_cameFrom_98)), (h12, .inl (k8, 3600, .inl v_cameBy_98))]) (w1 := [(h3, .inr (12, oX9 v_one_count (.ref h13) v_one_positionCount (.ref h14) (.ref h15) (.ref h16) (.ref h17) (.ref h18) v_one_stamp (.ref h19) v_one_stackCount v_one_width (.ref h20) (.ref h4) (.ref h5) (.ref h21) (.ref h22) (.ref h23))), (h5, .inl (k2, 15360, .inl v_one_goes))]) hP_b98 hD_b98 [3, 5] [0, 1, 2, 4, 6, 7, 8, 9, 10, 11, 12] rfl rfl (by decide) (by decide) hk_24 hFc_24 hP1_24 hD1_24
                have hP_24 := vaPq hP_24 (wsq := [(h0, .inr (11, oX8 (.ref h1) (.ref h3) (.ref h6) v_onlyInOne_98 v_onlyInOther_98 (.ref h9) v_stamp_39 (.ref h10) (.ref h11) (.ref h12) v_pairCount_98 v_parted_98)), (h1, .inr (3, oX0 v_alphabet_count (.ref h2))), (h2, .inl (k0, 256, .inl v_alphabet_begins)), (h3, .inr (12, oX9 v_one_count (.ref h13) v_one_positionCount (.ref h14) (.ref h15) (.ref h16) (.ref h17) (.ref h18) v_one_stamp (.ref h19) v_one_stackCount v_one_width (.ref h20) (.ref h4) (.ref h5) (.ref h21) (.ref h22) (.ref h23))), (h4, .inl (k1, 60, .inr (.inl v_one_ahead))), (h5, .inl (k2, 15360, .inl v_one_goes)), (h6, .inr (12, oX9 v_other_count (.ref h24) v_other_positionCount (.ref h25) (.ref h26) (.ref h27) (.ref h28) (.ref h29) v_other_stamp (.ref h30) v_other_stackCount v_other_width (.ref h31) (.ref h7) (.ref h8) (.ref h32) (.ref h33) (.ref h34))), (h7, .inl (k3, 60, .inr (.inl v_other_ahead))), (h8, .inl (k4, 15360, .inl v_other_goes)), (h9, .inl (k5, 3600, .inl v_met_98)), (h10, .inl (k6, 3600, .inl v_pairs_98)), (h11, .inl (k7, 3600, .inl v_cameFrom_98)), (h12, .inl (k8, 3600, .inl v_cameBy_98))]) [0, 1, 2, 11, 3, 12, 4, 5, 6, 7, 8, 9, 10] rfl
                have hD_24 := vaDq hD_24 (wsq := [(h0, .inr (11, oX8 (.ref h1) (.ref h3) (.ref h6) v_onlyInOne_98 v_onlyInOther_98 (.ref h9) v_stamp_39 (.ref h10) (.ref h11) (.ref h12) v_pairCount_98 v_parted_98)), (h1, .inr (3, oX0 v_alphabet_count (.ref h2))), (h2, .inl (k0, 256, .inl v_alphabet_begins)), (h3, .inr (12, oX9 v_one_count (.ref h13) v_one_positionCount (.ref h14) (.ref h15) (.ref h16) (.ref h17) (.ref h18) v_one_stamp (.ref h19) v_one_stackCount v_one_width (.ref h20) (.ref h4) (.ref h5) (.ref h21) (.ref h22) (.ref h23))), (h4, .inl (k1, 60, .inr (.inl v_one_ahead))), (h5, .inl (k2, 15360, .inl v_one_goes)), (h6, .inr (12, oX9 v_other_count (.ref h24) v_other_positionCount (.ref h25) (.ref h26) (.ref h27) (.ref h28) (.ref h29) v_other_stamp (.ref h30) v_other_stackCount v_other_width (.ref h31) (.ref h7) (.ref h8) (.ref h32) (.ref h33) (.ref h34))), (h7, .inl (k3, 60, .inr (.inl v_other_ahead))), (h8, .inl (k4, 15360, .inl v_other_goes)), (h9, .inl (k5, 3600, .inl v_met_98)), (h10, .inl (k6, 3600, .inl v_pairs_98)), (h11, .inl (k7, 3600, .inl v_cameFrom_98)), (h12, .inl (k8, 3600, .inl v_cameBy_98))]) [0, 1, 2, 11, 3, 12, 4, 5, 6, 7, 8, 9, 10] (by decide) rfl
                clear hPc_24 hDc_24 hKc_24 hFc_24 hP1_24 hD1_24 hk_24 hz_24
                refine lv_bipush (v := 60) hx hb dX8_walkBoth_121 (by decide) ?_
                refine lv_imul hx hb dX8_walkBoth_123 ?_
                refine lv_topi (fun x_25 ex_25 => ?_)
                have ex_25 : x_25 = r_24 * (60 : Int32) := ex_25
                refine lv_aload_n hx hb dX8_walkBoth_124 rfl (lv_at hl_b98 0 rfl) ?_
                refine va_get (D := (dC, dI)) (ci := 11) (v := .ref h6) (C := RX8) (T := TX8) (N := 12) hx hb ht inX8 hown hK hP_24 0 rfl rfl 2 (by decide) (ht _ tw_762) (fun _ h9 => h9) rfl dX8_walkBoth_125 ?_
                refine lv_iload_n hx hb dX8_walkBoth_128 rfl (lv_at hl_b98 3 rfl) ?_
                refine lv_iload hx hb dX8_walkBoth_129 (lv_at hl_b98 4 rfl) ?_
                have hPc_26 := vaPq hP_24 (wsq := [(h6, .inr (12, oX9 v_other_count (.ref h24) v_other_positionCount (.ref h25) (.ref h26) (.ref h27) (.ref h28) (.ref h29) v_other_stamp (.ref h30) v_other_stackCount v_other_width (.ref h31) (.ref h7) (.ref h8) (.ref h32) (.ref h33) (.ref h34))), (h8, .inl (k4, 15360, .inl v_other_goes))]) [6, 8] rfl
                have hDc_26 := vaDq hD_24 (wsq := [(h6, .inr (12, oX9 v_other_count (.ref h24) v_other_positionCount (.ref h25) (.ref h26) (.ref h27) (.ref h28) (.ref h29) v_other_stamp (.ref h30) v_other_stackCount v_other_width (.ref h31) (.ref h7) (.ref h8) (.ref h32) (.ref h33) (.ref h34))), (h8, .inl (k4, 15360, .inl v_other_goes))]) [6, 8] (by decide) rfl
                have hKc_26 := vaKq hK (tysq := [(k4, .int)]) [4] rfl
                have hFc_26 := va_free (wc := [(h6, .inr (12, oX9 v_other_count (.ref h24) v_other_positionCount (.ref h25) (.ref h26) (.ref h27) (.ref h28) (.ref h29) v_other_stamp (.ref h30) v_other_stackCount v_other_width (.ref h31) (.ref h7) (.ref h8) (.ref h32) (.ref h33) (.ref h34))), (h8, .inl (k4, 15360, .inl v_other_goes))]) hD_24 hS_24 hA [6, 8] rfl
                refine va_calli (va_runV (As := [.int l3_98, .int l4_98]) (rest := [.int x_25, .ref h0]) ⟨hx, hb, hml, hown, ht⟩ (mt_X9_next l dC dI h6 h8 h24 h25 h26 h27 h28 h29 h30 h31 h7 h32 h33 h34 k4 l3_98 l4_98 v_other_count v_other_positionCount v_other_stamp v_other_stackCount v_other_width v_other_goes _ (w_24 x_25 ex_25) H_24.size) (cwV 2 ht (goodV tw_1954 tw_1900 tw_1901 tw_248 gw_X9_next) rfl rfl rfl (by decide +kernel) ⟨Nat.le_of_ble_eq_true rfl, Nat.le_of_ble_eq_true rfl⟩) ⟨fun a U g mk q => by obtain ⟨q0, q1, qP, qK, qD⟩ := q; exact ⟨q0, q1, qP, va_K.moved (u := U) (U := U.calling g mk a) (Vm.Alike.refl U.vm) qK, qD⟩, va_recv hKc_26 hPc_26 (ci := 12) (q0 := 0) rfl rfl, fun U hU hW => ⟨rfl, by rw [hU], by rw [hU]; exact hPc_26, va_K.moved hW.alike hKc_26, hDc_26.weaken (fun _ _ _ _ => trivial)⟩⟩ rfl rfl hl_b98.1 rfl (lv_room (Nat.le_of_ble_eq_true rfl)) dX8_walkBoth_131 ⟨Nat.le_of_ble_eq_true rfl, Nat.le_of_ble_eq_true rfl⟩) hS_24 (fun q _ h => hFc_26 q h) hFc_26 (fun r_26 u_26 t_26 H_26 locs_26 ht_26 hvm_26 hw_26 hB_26 hz_26 hk_26 hS_26 => ?_)
                subst hw_26
                obtain ⟨w_26, hP1_26, hD1_26⟩ := hB_26
                rw [ht_26] at hP1_26
                obtain ⟨hP_26, hD_26⟩ := va_join (wr := [(h0, .inr (11, oX8 (.ref h1) (.ref h3) (.ref h6) v_onlyInOne_98 v_onlyInOther_98 (.ref h9) v_stamp_39 (.ref h10) (.ref h11) (.ref h12) v_pairCount_98 v_parted_98)), (h1, .inr (3, oX0 v_alphabet_count (.ref h2))), (h2, .inl (k0, 256, .inl v_alphabet_begins)), (h3, .inr (12, oX9 v_one_count (.ref h13) v_one_positionCount (.ref h14) (.ref h15) (.ref h16) (.ref h17) (.ref h18) v_one_stamp (.ref h19) v_one_stackCount v_one_width (.ref h20) (.ref h4) (.ref h5) (.ref h21) (.ref h22) (.ref h23))), (h4, .inl (k1, 60, .inr (.inl v_one_ahead))), (h5, .inl (k2, 15360, .inl v_one_goes)), (h7, .inl (k3, 60, .inr (.inl v_other_ahead))), (h9, .inl (k5, 3600, .inl v_met_98)), (h10, .inl (k6, 3600, .inl v_pairs_98)), (h11, .inl (k7, 3600, .inl v_cameFrom_98)), (h12, .inl (k8, 3600, .inl v_cameBy_98))]) (w1 := [(h6, .inr (12, oX9 v_other_count (.ref h24) v_other_positionCount (.ref h25) (.ref h26) (.ref h27) (.ref h28) (.ref h29) v_other_stamp (.ref h30) v_other_stackCount v_other_width (.ref h31) (.ref h7) (.ref h8) (.ref h32) (.ref h33) (.ref h34))), (h8, .inl (k4, 15360, .inl v_other_goes))]) hP_24 hD_24 [6, 8] [0, 1, 2, 3, 4, 5, 7, 9, 10, 11, 12] rfl rfl (by decide) (by decide) hk_26 hFc_26 hP1_26 hD1_26
                have hP_26 := vaPq hP_26 (wsq := [(h0, .inr (11, oX8 (.ref h1) (.ref h3) (.ref h6) v_onlyInOne_98 v_onlyInOther_98 (.ref h9) v_stamp_39 (.ref h10) (.ref h11) (.ref h12) v_pairCount_98 v_parted_98)), (h1, .inr (3, oX0 v_alphabet_count (.ref h2))), (h2, .inl (k0, 256, .inl v_alphabet_begins)), (h3, .inr (12, oX9 v_one_count (.ref h13) v_one_positionCount (.ref h14) (.ref h15) (.ref h16) (.ref h17) (.ref h18) v_one_stamp (.ref h19) v_one_stackCount v_one_width (.ref h20) (.ref h4) (.ref h5) (.ref h21) (.ref h22) (.ref h23))), (h4, .inl (k1, 60, .inr (.inl v_one_ahead))), (h5, .inl (k2, 15360, .inl v_one_goes)), (h6, .inr (12, oX9 v_other_count (.ref h24) v_other_positionCount (.ref h25) (.ref h26) (.ref h27) (.ref h28) (.ref h29) v_other_stamp (.ref h30) v_other_stackCount v_other_width (.ref h31) (.ref h7) (.ref h8) (.ref h32) (.ref h33) (.ref h34))), (h7, .inl (k3, 60, .inr (.inl v_other_ahead))), (h8, .inl (k4, 15360, .inl v_other_goes)), (h9, .inl (k5, 3600, .inl v_met_98)), (h10, .inl (k6, 3600, .inl v_pairs_98)), (h11, .inl (k7, 3600, .inl v_cameFrom_98)), (h12, .inl (k8, 3600, .inl v_cameBy_98))]) [0, 1, 2, 3, 4, 5, 11, 6, 12, 7, 8, 9, 10] rfl
                have hD_26 := vaDq hD_26 (wsq := [(h0, .inr (11, oX8 (.ref h1) (.ref h3) (.ref h6) v_onlyInOne_98 v_onlyInOther_98 (.ref h9) v_stamp_39 (.ref h10) (.ref h11) (.ref h12) v_pairCount_98 v_parted_98)), (h1, .inr (3, oX0 v_alphabet_count (.ref h2))), (h2, .inl (k0, 256, .inl v_alphabet_begins)), (h3, .inr (12, oX9 v_one_count (.ref h13) v_one_positionCount (.ref h14) (.ref h15) (.ref h16) (.ref h17) (.ref h18) v_one_stamp (.ref h19) v_one_stackCount v_one_width (.ref h20) (.ref h4) (.ref h5) (.ref h21) (.ref h22) (.ref h23))), (h4, .inl (k1, 60, .inr (.inl v_one_ahead))), (h5, .inl (k2, 15360, .inl v_one_goes)), (h6, .inr (12, oX9 v_other_count (.ref h24) v_other_positionCount (.ref h25) (.ref h26) (.ref h27) (.ref h28) (.ref h29) v_other_stamp (.ref h30) v_other_stackCount v_other_width (.ref h31) (.ref h7) (.ref h8) (.ref h32) (.ref h33) (.ref h34))), (h7, .inl (k3, 60, .inr (.inl v_other_ahead))), (h8, .inl (k4, 15360, .inl v_other_goes)), (h9, .inl (k5, 3600, .inl v_met_98)), (h10, .inl (k6, 3600, .inl v_pairs_98)), (h11, .inl (k7, 3600, .inl v_cameFrom_98)), (h12, .inl (k8, 3600, .inl v_cameBy_98))]) [0, 1, 2, 3, 4, 5, 11, 6, 12, 7, 8, 9, 10] (by decide) rfl
                clear hPc_26 hDc_26 hKc_26 hFc_26 hP1_26 hD1_26 hk_26 hz_26
                refine lv_iadd hx hb dX8_walkBoth_134 ?_
                refine lv_topi (fun x_27 ex_27 => ?_)
                have ex_27 : x_27 = x_25 + r_26 := ex_27
                refine lv_iload_n hx hb dX8_walkBoth_135 rfl (lv_at hl_b98 1 rfl) ?_
                refine lv_aload_n hx hb dX8_walkBoth_136 rfl (lv_at hl_b98 0 rfl) ?_
                refine va_get (D := (dC, dI)) (ci := 11) (v := .ref h1) (C := RX8) (T := TX8) (N := 12) hx hb ht inX8 hown hK hP_26 0 rfl rfl 0 (by decide) (ht _ tw_758) (fun _ h9 => h9) rfl dX8_walkBoth_137 ?_
                refine lv_iload hx hb dX8_walkBoth_140 (lv_at hl_b98 4 rfl) ?_
                have hPc_28 := vaPq hP_26 (wsq := [(h1, .inr (3, oX0 v_alphabet_count (.ref h2))), (h2, .inl (k0, 256, .inl v_alphabet_begins))]) [1, 2] rfl
                have hDc_28 := vaDq hD_26 (wsq := [(h1, .inr (3, oX0 v_alphabet_count (.ref h2))), (h2, .inl (k0, 256, .inl v_alphabet_begins))]) [1, 2] (by decide) rfl
                have hKc_28 := vaKq hK (tysq := [(k0, .int)]) [0] rfl
                have hFc_28 := va_free (wc := [(h1, .inr (3, oX0 v_alphabet_count (.ref h2))), (h2, .inl (k0, 256, .inl v_alphabet_begins))]) hD_26 hS_26 hA [1, 2] rfl
                refine va_calli (va_runV (As := [.int l4_98]) (rest := [.int l1_98, .int x_27, .ref h0]) ⟨hx, hb, hml, hown, ht⟩ (mt_X0_leastOf l dC dI h1 h2 k0 l4_98 v_alphabet_count v_alphabet_begins _ (w_26 x_27 ex_27) H_26.size) (cwV 1 ht (goodV tw_1955 tw_1360 tw_1361 tw_247 gw_X0_leastOf) rfl rfl rfl (by decide +kernel) ⟨Nat.le_of_ble_eq_true rfl, Nat.le_of_ble_eq_true rfl⟩) ⟨fun a U g mk q => by obtain ⟨q0, q1, qP, qK, qD⟩ := q; exact ⟨q0, q1, qP, va_K.moved (u := U) (U := U.calling g mk a) (Vm.Alike.refl U.vm) qK, qD⟩, va_recv hKc_28 hPc_28 (ci := 3) (q0 := 0) rfl rfl, fun U hU hW => ⟨rfl, by rw [hU], by rw [hU]; exact hPc_28, va_K.moved hW.alike hKc_28, hDc_28.weaken (fun _ _ _ _ => trivial)⟩⟩ rfl rfl hl_b98.1 rfl (lv_room (Nat.le_of_ble_eq_true rfl)) dX8_walkBoth_142 ⟨Nat.le_of_ble_eq_true rfl, Nat.le_of_ble_eq_true rfl⟩) hS_26 (fun q _ h => hFc_28 q h) hFc_28 (fun r_28 u_28 t_28 H_28 locs_28 ht_28 hvm_28 hw_28 hB_28 hz_28 hk_28 hS_28 => ?_)
                subst hw_28
                obtain ⟨w_28, hP1_28, hD1_28⟩ := hB_28
                rw [ht_28] at hP1_28
                obtain ⟨hP_28, hD_28⟩ := va_join (wr := [(h0, .inr (11, oX8 (.ref h1) (.ref h3) (.ref h6) v_onlyInOne_98 v_onlyInOther_98 (.ref h9) v_stamp_39 (.ref h10) (.ref h11) (.ref h12) v_pairCount_98 v_parted_98)), (h3, .inr (12, oX9 v_one_count (.ref h13) v_one_positionCount (.ref h14) (.ref h15) (.ref h16) (.ref h17) (.ref h18) v_one_stamp (.ref h19) v_one_stackCount v_one_width (.ref h20) (.ref h4) (.ref h5) (.ref h21) (.ref h22) (.ref h23))), (h4, .inl (k1, 60, .inr (.inl v_one_ahead))), (h5, .inl (k2, 15360, .inl v_one_goes)), (h6, .inr (12, oX9 v_other_count (.ref h24) v_other_positionCount (.ref h25) (.ref h26) (.ref h27) (.ref h28) (.ref h29) v_other_stamp (.ref h30) v_other_stackCount v_other_width (.ref h31) (.ref h7) (.ref h8) (.ref h32) (.ref h33) (.ref h34))), (h7, .inl (k3, 60, .inr (.inl v_other_ahead))), (h8, .inl (k4, 15360, .inl v_other_goes)), (h9, .inl (k5, 3600, .inl v_met_98)), (h10, .inl (k6, 3600, .inl v_pairs_98)), (h11, .inl (k7, 3600, .inl v_cameFrom_98)), (h12, .inl (k8, 3600, .inl v_cameBy_98))]) (w1 := [(h1, .inr (3, oX0 v_alphabet_count (.ref h2))), (h2, .inl (k0, 256, .inl v_alphabet_begins))]) hP_26 hD_26 [1, 2] [0, 3, 4, 5, 6, 7, 8, 9, 10, 11, 12] rfl rfl (by decide) (by decide) hk_28 hFc_28 hP1_28 hD1_28
                have hP_28 := vaPq hP_28 (wsq := [(h0, .inr (11, oX8 (.ref h1) (.ref h3) (.ref h6) v_onlyInOne_98 v_onlyInOther_98 (.ref h9) v_stamp_39 (.ref h10) (.ref h11) (.ref h12) v_pairCount_98 v_parted_98)), (h1, .inr (3, oX0 v_alphabet_count (.ref h2))), (h2, .inl (k0, 256, .inl v_alphabet_begins)), (h3, .inr (12, oX9 v_one_count (.ref h13) v_one_positionCount (.ref h14) (.ref h15) (.ref h16) (.ref h17) (.ref h18) v_one_stamp (.ref h19) v_one_stackCount v_one_width (.ref h20) (.ref h4) (.ref h5) (.ref h21) (.ref h22) (.ref h23))), (h4, .inl (k1, 60, .inr (.inl v_one_ahead))), (h5, .inl (k2, 15360, .inl v_one_goes)), (h6, .inr (12, oX9 v_other_count (.ref h24) v_other_positionCount (.ref h25) (.ref h26) (.ref h27) (.ref h28) (.ref h29) v_other_stamp (.ref h30) v_other_stackCount v_other_width (.ref h31) (.ref h7) (.ref h8) (.ref h32) (.ref h33) (.ref h34))), (h7, .inl (k3, 60, .inr (.inl v_other_ahead))), (h8, .inl (k4, 15360, .inl v_other_goes)), (h9, .inl (k5, 3600, .inl v_met_98)), (h10, .inl (k6, 3600, .inl v_pairs_98)), (h11, .inl (k7, 3600, .inl v_cameFrom_98)), (h12, .inl (k8, 3600, .inl v_cameBy_98))]) [0, 11, 12, 1, 2, 3, 4, 5, 6, 7, 8, 9, 10] rfl
                have hD_28 := vaDq hD_28 (wsq := [(h0, .inr (11, oX8 (.ref h1) (.ref h3) (.ref h6) v_onlyInOne_98 v_onlyInOther_98 (.ref h9) v_stamp_39 (.ref h10) (.ref h11) (.ref h12) v_pairCount_98 v_parted_98)), (h1, .inr (3, oX0 v_alphabet_count (.ref h2))), (h2, .inl (k0, 256, .inl v_alphabet_begins)), (h3, .inr (12, oX9 v_one_count (.ref h13) v_one_positionCount (.ref h14) (.ref h15) (.ref h16) (.ref h17) (.ref h18) v_one_stamp (.ref h19) v_one_stackCount v_one_width (.ref h20) (.ref h4) (.ref h5) (.ref h21) (.ref h22) (.ref h23))), (h4, .inl (k1, 60, .inr (.inl v_one_ahead))), (h5, .inl (k2, 15360, .inl v_one_goes)), (h6, .inr (12, oX9 v_other_count (.ref h24) v_other_positionCount (.ref h25) (.ref h26) (.ref h27) (.ref h28) (.ref h29) v_other_stamp (.ref h30) v_other_stackCount v_other_width (.ref h31) (.ref h7) (.ref h8) (.ref h32) (.ref h33) (.ref h34))), (h7, .inl (k3, 60, .inr (.inl v_other_ahead))), (h8, .inl (k4, 15360, .inl v_other_goes)), (h9, .inl (k5, 3600, .inl v_met_98)), (h10, .inl (k6, 3600, .inl v_pairs_98)), (h11, .inl (k7, 3600, .inl v_cameFrom_98)), (h12, .inl (k8, 3600, .inl v_cameBy_98))]) [0, 11, 12, 1, 2, 3, 4, 5, 6, 7, 8, 9, 10] (by decide) rfl
                clear hPc_28 hDc_28 hKc_28 hFc_28 hP1_28 hD1_28 hk_28 hz_28
                have hPc_29 := vaPq hP_28 (wsq := [(h0, .inr (11, oX8 (.ref h1) (.ref h3) (.ref h6) v_onlyInOne_98 v_onlyInOther_98 (.ref h9) v_stamp_39 (.ref h10) (.ref h11) (.ref h12) v_pairCount_98 v_parted_98)), (h9, .inl (k5, 3600, .inl v_met_98)), (h10, .inl (k6, 3600, .inl v_pairs_98)), (h11, .inl (k7, 3600, .inl v_cameFrom_98)), (h12, .inl (k8, 3600, .inl v_cameBy_98))]) [0, 9, 10, 11, 12] rfl
                have hDc_29 := vaDq hD_28 (wsq := [(h0, .inr (11, oX8 (.ref h1) (.ref h3) (.ref h6) v_onlyInOne_98 v_onlyInOther_98 (.ref h9) v_stamp_39 (.ref h10) (.ref h11) (.ref h12) v_pairCount_98 v_parted_98)), (h9, .inl (k5, 3600, .inl v_met_98)), (h10, .inl (k6, 3600, .inl v_pairs_98)), (h11, .inl (k7, 3600, .inl v_cameFrom_98)), (h12, .inl (k8, 3600, .inl v_cameBy_98))]) [0, 9, 10, 11, 12] (by decide) rfl
                have hKc_29 := vaKq hK (tysq := [(k5, .int), (k6, .int), (k7, .int), (k8, .int)]) [5, 6, 7, 8] rfl
                have hFc_29 := va_free (wc := [(h0, .inr (11, oX8 (.ref h1) (.ref h3) (.ref h6) v_onlyInOne_98 v_onlyInOther_98 (.ref h9) v_stamp_39 (.ref h10) (.ref h11) (.ref h12) v_pairCount_98 v_parted_98)), (h9, .inl (k5, 3600, .inl v_met_98)), (h10, .inl (k6, 3600, .inl v_pairs_98)), (h11, .inl (k7, 3600, .inl v_cameFrom_98)), (h12, .inl (k8, 3600, .inl v_cameBy_98))]) hD_28 hS_28 hA [0, 9, 10, 11, 12] rfl
                refine va_callv (va_runV (As := [.int x_27, .int l1_98, .int r_28]) (rest := []) ⟨hx, hb, hml, hown, ht⟩ (mt_X8_meet l dC dI h0 h9 h10 h11 h12 h1 h3 h6 k5 k6 k7 k8 x_27 l1_98 r_28 v_onlyInOne_98 v_onlyInOther_98 v_stamp_39 v_pairCount_98 v_parted_98 v_met_98 v_pairs_98 v_cameFrom_98 v_cameBy_98 _ w_28 H_28.size) (cwV 3 ht (goodV tw_1945 tw_1947 tw_142 tw_246 gw_X8_meet) rfl rfl rfl (by decide +kernel) ⟨Nat.le_of_ble_eq_true rfl, Nat.le_of_ble_eq_true rfl⟩) ⟨fun a U g mk q => by obtain ⟨q0, q1, qP, qK, qD⟩ := q; exact ⟨q0, q1, qP, va_K.moved (u := U) (U := U.calling g mk a) (Vm.Alike.refl U.vm) qK, qD⟩, va_recv hKc_29 hPc_29 (ci := 11) (q0 := 0) rfl rfl, fun U hU hW => ⟨rfl, by rw [hU], by rw [hU]; exact hPc_29, va_K.moved hW.alike hKc_29, hDc_29.weaken (fun _ _ _ _ => trivial)⟩⟩ rfl rfl hl_b98.1 rfl (lv_room (Nat.le_of_ble_eq_true rfl)) dX8_walkBoth_145 ⟨Nat.le_of_ble_eq_true rfl, Nat.le_of_ble_eq_true rfl⟩) hS_28 (fun q _ h => hFc_29 q h) hFc_29 (fun u_29 t_29 H_29 locs_29 ht_29 hvm_29 hw_29 hB_29 hz_29 hk_29 hS_29 => ?_)
                subst hw_29
                obtain ⟨r_29_0, r_29_1, r_29_2, r_29_3, r_29_4, w_29, hP1_29, hD1_29⟩ := hB_29
                rw [ht_29] at hP1_29
                obtain ⟨hP_29, hD_29⟩ := va_join (wr := [(h1, .inr (3, oX0 v_alphabet_count (.ref h2))), (h2, .inl (k0, 256, .inl v_alphabet_begins)), (h3, .inr (12, oX9 v_one_count (.ref h13) v_one_positionCount (.ref h14) (.ref h15) (.ref h16) (.ref h17) (.ref h18) v_one_stamp (.ref h19) v_one_stackCount v_one_width (.ref h20) (.ref h4) (.ref h5) (.ref h21) (.ref h22) (.ref h23))), (h4, .inl (k1, 60, .inr (.inl v_one_ahead))), (h5, .inl (k2, 15360, .inl v_one_goes)), (h6, .inr (12, oX9 v_other_count (.ref h24) v_other_positionCount (.ref h25) (.ref h26) (.ref h27) (.ref h28) (.ref h29) v_other_stamp (.ref h30) v_other_stackCount v_other_width (.ref h31) (.ref h7) (.ref h8) (.ref h32) (.ref h33) (.ref h34))), (h7, .inl (k3, 60, .inr (.inl v_other_ahead))), (h8, .inl (k4, 15360, .inl v_other_goes))]) (w1 := [(h0, .inr (11, oX8 (.ref h1) (.ref h3) (.ref h6) v_onlyInOne_98 v_onlyInOther_98 (.ref h9) v_stamp_39 (.ref h10) (.ref h11) (.ref h12) r_29_0 v_parted_98)), (h9, .inl (k5, 3600, .inl r_29_1)), (h10, .inl (k6, 3600, .inl r_29_2)), (h11, .inl (k7, 3600, .inl r_29_3)), (h12, .inl (k8, 3600, .inl r_29_4))]) hP_28 hD_28 [0, 9, 10, 11, 12] [1, 2, 3, 4, 5, 6, 7, 8] rfl rfl (by decide) (by decide) hk_29 hFc_29 hP1_29 hD1_29
                have hP_29 := vaPq hP_29 (wsq := [(h0, .inr (11, oX8 (.ref h1) (.ref h3) (.ref h6) v_onlyInOne_98 v_onlyInOther_98 (.ref h9) v_stamp_39 (.ref h10) (.ref h11) (.ref h12) r_29_0 v_parted_98)), (h1, .inr (3, oX0 v_alphabet_count (.ref h2))), (h2, .inl (k0, 256, .inl v_alphabet_begins)), (h3, .inr (12, oX9 v_one_count (.ref h13) v_one_positionCount (.ref h14) (.ref h15) (.ref h16) (.ref h17) (.ref h18) v_one_stamp (.ref h19) v_one_stackCount v_one_width (.ref h20) (.ref h4) (.ref h5) (.ref h21) (.ref h22) (.ref h23))), (h4, .inl (k1, 60, .inr (.inl v_one_ahead))), (h5, .inl (k2, 15360, .inl v_one_goes)), (h6, .inr (12, oX9 v_other_count (.ref h24) v_other_positionCount (.ref h25) (.ref h26) (.ref h27) (.ref h28) (.ref h29) v_other_stamp (.ref h30) v_other_stackCount v_other_width (.ref h31) (.ref h7) (.ref h8) (.ref h32) (.ref h33) (.ref h34))), (h7, .inl (k3, 60, .inr (.inl v_other_ahead))), (h8, .inl (k4, 15360, .inl v_other_goes)), (h9, .inl (k5, 3600, .inl r_29_1)), (h10, .inl (k6, 3600, .inl r_29_2)), (h11, .inl (k7, 3600, .inl r_29_3)), (h12, .inl (k8, 3600, .inl r_29_4))]) [8, 0, 1, 2, 3, 4, 5, 6, 7, 9, 10, 11, 12] rfl
                have hD_29 := vaDq hD_29 (wsq := [(h0, .inr (11, oX8 (.ref h1) (.ref h3) (.ref h6) v_onlyInOne_98 v_onlyInOther_98 (.ref h9) v_stamp_39 (.ref h10) (.ref h11) (.ref h12) r_29_0 v_parted_98)), (h1, .inr (3, oX0 v_alphabet_count (.ref h2))), (h2, .inl (k0, 256, .inl v_alphabet_begins)), (h3, .inr (12, oX9 v_one_count (.ref h13) v_one_positionCount (.ref h14) (.ref h15) (.ref h16) (.ref h17) (.ref h18) v_one_stamp (.ref h19) v_one_stackCount v_one_width (.ref h20) (.ref h4) (.ref h5) (.ref h21) (.ref h22) (.ref h23))), (h4, .inl (k1, 60, .inr (.inl v_one_ahead))), (h5, .inl (k2, 15360, .inl v_one_goes)), (h6, .inr (12, oX9 v_other_count (.ref h24) v_other_positionCount (.ref h25) (.ref h26) (.ref h27) (.ref h28) (.ref h29) v_other_stamp (.ref h30) v_other_stackCount v_other_width (.ref h31) (.ref h7) (.ref h8) (.ref h32) (.ref h33) (.ref h34))), (h7, .inl (k3, 60, .inr (.inl v_other_ahead))), (h8, .inl (k4, 15360, .inl v_other_goes)), (h9, .inl (k5, 3600, .inl r_29_1)), (h10, .inl (k6, 3600, .inl r_29_2)), (h11, .inl (k7, 3600, .inl r_29_3)), (h12, .inl (k8, 3600, .inl r_29_4))]) [8, 0, 1, 2, 3, 4, 5, 6, 7, 9, 10, 11, 12] (by decide) rfl
                clear hPc_29 hDc_29 hKc_29 hFc_29 hP1_29 hD1_29 hk_29 hz_29
                obtain ⟨x_30, ex_30⟩ : ∃ y : Int32, y = l4_98 + 1 := ⟨_, rfl⟩
                refine lv_iinc (v := x_30) (lv' := [(4, .int x_30), (0, .ref h0), (1, .int l1_98), (2, .int l2_98), (3, .int l3_98)]) hx hb dX8_walkBoth_148 hl_b98 (k := 4) rfl ex_30.symm (by decide) rfl (fun ls_30 hl_30 => ?_)
                refine lv_goto (tgt := 98) hx hb dX8_walkBoth_151 (by decide) ?_
                exact ih_98 x_30 r_29_0 r_29_1 r_29_2 r_29_3 r_29_4 _ _ _ (w_29 x_30 ex_30) hP_29 hD_29 hS_29 (lv_sub hl_30 [1, 2, 3, 4, 0] rfl)
          obtain ⟨n_31, w_31⟩ := w_20
          exact k_98 l1_39 x_12 x_16 r_20_0 r_20_1 r_20_2 n_31 0 v_pairCount_39 v_met_39 v_pairs_39 v_cameFrom_39 v_cameBy_39 _ _ _ w_31 hP_20 hD_20 hS_20 (lv_sub hl_21 [3, 4, 2, 1, 0] rfl)
  obtain ⟨n_32, w_32⟩ := w_7
  exact k_39 x_4 n_32 0 false false r_7_0 (-1) r_7_1 r_7_2 r_7_3 r_7_4 _ _ _ w_32 hP_7 hD_7 hS_7 (lv_sub hl_8 [1, 0] rfl)
def w_X4_isMark_76 (Q : Int32 → Prop) : Prop :=
  Q 1
def w_X4_isMark (p0 : Int32) (Q : Int32 → Prop) : Prop :=
  ((p0 = 33) → w_X4_isMark_76 Q) ∧ ((p0 = 35) → w_X4_isMark_76 Q) ∧ ((p0 = 37) → w_X4_isMark_76 Q) ∧ ((p0 = 58) → w_X4_isMark_76 Q) ∧ ((p0 = 60) → w_X4_isMark_76 Q) ∧ ((p0 = 61) → w_X4_isMark_76 Q) ∧ ((p0 = 64) → w_X4_isMark_76 Q) ∧ ((p0 = 126) → w_X4_isMark_76 Q) ∧ ((¬ p0 = 33) → (¬ p0 = 35) → (¬ p0 = 37) → (¬ p0 = 58) → (¬ p0 = 60) → (¬ p0 = 61) → (¬ p0 = 64) → (¬ p0 = 126) → Q 0)
set_option maxHeartbeats 4000000 in
set_option maxRecDepth 100000 in
theorem mt_X4_isMark (l : Launch) (dC : Nat → ClassId) (dI : Nat → Nat → Nat) (p0 : Int32) (Q : Int32 → Prop) (w : w_X4_isMark p0 Q) (sz : Nat) : Met l yX4_isMark (WS yX4_isMark cX4_isMark 1 (some (.boolean))) ({ frames := 0, cells := 0, slots := 0, locals := 0 } : Room) (va_Pc [.int p0] (fun U => U.heap.size = sz ∧ va_P (dC, dI) vwCl [] U.heap ∧ va_K (dC, dI) vwCl [] U ∧ va_D (fun _ => True) [])) (va_Qi (fun (r u : Int32) => r = u) (fun (u : Int32) (t : State) => (Q u) ∧ va_P (dC, dI) vwCl [] t.heap ∧ va_D (va_A [] sz) []) (va_A [] sz)) 0 0 (va_A [] sz) := by
  refine Met.ofW (cc := cX4_isMark) (maxL := 1) (ret := (some (.boolean))) (by decide) rfl ?_
  intro p e s m args below meth c s₁ B hml hv
  obtain ⟨rfl, hsz, hP, hK, hD0⟩ := hv
  have hx := B.exec
  have hb := B.bytes
  have hr := B.returns
  have hts := atoms_spec (ws := WS yX4_isMark cX4_isMark 1 (some (.boolean))) B.pre
  have ht : ∀ w ∈ TW, w.before _ s = true := fun w h => hts w (List.mem_cons_of_mem _ h)
  have hown : s.vm.findClass "PatternWorkshop$Printer" = some m.cls := findClass_of_methodNamed B.named
  have hlocks := B.notSynchronized
  subst hsz
  have hD := hD0.self (sz := s.heap.size)
  generalize hAe : va_A [] s.heap.size = A at hD ⊢
  have hA : ∀ q : Nat, s.heap.size ≤ q → A q := fun q h => by rw [← hAe]; exact Or.inr h
  have hS : va_S A s.heap s.heap [] := va_S.rf
  have hP : va_P (dC, dI) vwCl [] s.heap := hP
  have hl := lv_entry ([.int p0]) (n := 1) (Nat.le_of_ble_eq_true rfl)
  rw [lg_entry_eq]
  generalize (lg_sl ([.int p0]) ++ List.replicate (1 - (lg_sl ([.int p0])).length) Slot.unset).toArray = ls at hl ⊢
  have hl : lv_has ls 1 [(0, .int p0)] := hl
  clear hD0
  obtain ⟨QQ, hQQ⟩ : ∃ QQ, QQ = MQ below (va_Qi (fun (r u : Int32) => r = u) (fun (u : Int32) (t : State) => (Q u) ∧ va_P (dC, dI) vwCl [] t.heap ∧ va_D A []) A) ([.int p0]).toArray s 0 0 A := ⟨_, rfl⟩
  show W p l e ({ frames := 0, cells := 0, slots := 0, locals := 0 } : Room) s m ([.int p0]).toArray below meth c s.heap [] 0 0 (MQ below (va_Qi (fun (r u : Int32) => r = u) (fun (u : Int32) (t : State) => (Q u) ∧ va_P (dC, dI) vwCl [] t.heap ∧ va_D A []) A) ([.int p0]).toArray s 0 0 A) (F0 m 0 ls [])
  rw [← hQQ]
  unfold w_X4_isMark at w
  refine lv_iload_n hx hb dX4_isMark_0 rfl (lv_at hl 0 rfl) ?_
  have k_76 : ∀ (H_b76 : Heap) (locs_b76 : List Loc) (ls_b76 : Array Slot), w_X4_isMark_76 Q → va_P (dC, dI) vwCl [] H_b76 → va_D A [] → va_S A s.heap H_b76 locs_b76 → lv_has ls_b76 1 [] → W p l e ({ frames := 0, cells := 0, slots := 0, locals := 0 } : Room) s m ([.int p0]).toArray below meth c H_b76 locs_b76 0 0 QQ (F0 m 76 ls_b76 []) := by
    intro  H_b76 locs_b76 ls_b76 w_b76 hP_b76 hD_b76 hS_b76 hl_b76
    unfold w_X4_isMark_76 at w_b76
    refine lv_iconst (v := 1) hx hb dX4_isMark_76 (by decide) ?_
    rw [hQQ]
    exact W.zret (v := 1) hx hb hr rfl (fun t9 ht9 hW9 => ⟨⟨1, 1, rfl, rfl, ⟨w_b76, by rw [ht9]; exact hP_b76, hD_b76⟩⟩, hS_b76.F ht9⟩) hS_b76.2.2 dX4_isMark_77
  by_cases c_1_0 : p0 = 33
  · refine lv_lookup (tgt := 76) (off := 75) hx hb dX4_isMark_1 (by decide) (by rw [c_1_0]; decide) (by decide) ?_
    exact k_76  _ _ _ (w.1 c_1_0) hP hD hS (lv_sub hl [] rfl)
  by_cases c_1_1 : p0 = 35
  · refine lv_lookup (tgt := 76) (off := 75) hx hb dX4_isMark_1 (by decide) (by rw [c_1_1]; decide) (by decide) ?_
    exact k_76  _ _ _ (w.2.1 c_1_1) hP hD hS (lv_sub hl [] rfl)
  by_cases c_1_2 : p0 = 37
  · refine lv_lookup (tgt := 76) (off := 75) hx hb dX4_isMark_1 (by decide) (by rw [c_1_2]; decide) (by decide) ?_
    exact k_76  _ _ _ (w.2.2.1 c_1_2) hP hD hS (lv_sub hl [] rfl)
  by_cases c_1_3 : p0 = 58
  · refine lv_lookup (tgt := 76) (off := 75) hx hb dX4_isMark_1 (by decide) (by rw [c_1_3]; decide) (by decide) ?_
    exact k_76  _ _ _ (w.2.2.2.1 c_1_3) hP hD hS (lv_sub hl [] rfl)
  by_cases c_1_4 : p0 = 60
  · refine lv_lookup (tgt := 76) (off := 75) hx hb dX4_isMark_1 (by decide) (by rw [c_1_4]; decide) (by decide) ?_
    exact k_76  _ _ _ (w.2.2.2.2.1 c_1_4) hP hD hS (lv_sub hl [] rfl)
  by_cases c_1_5 : p0 = 61
  · refine lv_lookup (tgt := 76) (off := 75) hx hb dX4_isMark_1 (by decide) (by rw [c_1_5]; decide) (by decide) ?_
    exact k_76  _ _ _ (w.2.2.2.2.2.1 c_1_5) hP hD hS (lv_sub hl [] rfl)
  by_cases c_1_6 : p0 = 64
  · refine lv_lookup (tgt := 76) (off := 75) hx hb dX4_isMark_1 (by decide) (by rw [c_1_6]; decide) (by decide) ?_
    exact k_76  _ _ _ (w.2.2.2.2.2.2.1 c_1_6) hP hD hS (lv_sub hl [] rfl)
  by_cases c_1_7 : p0 = 126
  · refine lv_lookup (tgt := 76) (off := 75) hx hb dX4_isMark_1 (by decide) (by rw [c_1_7]; decide) (by decide) ?_
    exact k_76  _ _ _ (w.2.2.2.2.2.2.2.1 c_1_7) hP hD hS (lv_sub hl [] rfl)
  refine lv_lookup (tgt := 78) (off := 77) hx hb dX4_isMark_1 (by decide) ?_ (by decide) ?_
  · apply Op.lookupswitch.offset_none
    simp only [List.find?_eq_none]
    intro q9 h9
    simp only [List.mem_cons, List.not_mem_nil, or_false] at h9
    rcases h9 with rfl | rfl | rfl | rfl | rfl | rfl | rfl | rfl
    · exact fun h8 => c_1_0 (Int32.toInt_inj.mp (by simpa using (beq_iff_eq.mp h8).symm))
    · exact fun h8 => c_1_1 (Int32.toInt_inj.mp (by simpa using (beq_iff_eq.mp h8).symm))
    · exact fun h8 => c_1_2 (Int32.toInt_inj.mp (by simpa using (beq_iff_eq.mp h8).symm))
    · exact fun h8 => c_1_3 (Int32.toInt_inj.mp (by simpa using (beq_iff_eq.mp h8).symm))
    · exact fun h8 => c_1_4 (Int32.toInt_inj.mp (by simpa using (beq_iff_eq.mp h8).symm))
    · exact fun h8 => c_1_5 (Int32.toInt_inj.mp (by simpa using (beq_iff_eq.mp h8).symm))
    · exact fun h8 => c_1_6 (Int32.toInt_inj.mp (by simpa using (beq_iff_eq.mp h8).symm))
    · exact fun h8 => c_1_7 (Int32.toInt_inj.mp (by simpa using (beq_iff_eq.mp h8).symm))
  · refine lv_iconst (v := 0) hx hb dX4_isMark_78 (by decide) ?_
    have w_2 := w.2.2.2.2.2.2.2.2 c_1_0 c_1_1 c_1_2 c_1_3 c_1_4 c_1_5 c_1_6 c_1_7
    rw [hQQ]
    exact W.zret (v := 0) hx hb hr rfl (fun t9 ht9 hW9 => ⟨⟨0, 0, rfl, rfl, ⟨w_2, by rw [ht9]; exact hP, hD⟩⟩, hS.F ht9⟩) hS.2.2 dX4_isMark_79
def w_X4_markOfLook (p0 : Int32) (Q : Int32 → Prop) : Prop :=
  ((p0 = 0) → Q 61) ∧ ((p0 = 1) → Q 33) ∧ ((p0 = 2) → Q 60) ∧ ((¬ p0 = 0) → (¬ p0 = 1) → (¬ p0 = 2) → Q 126)
set_option maxHeartbeats 4000000 in
set_option maxRecDepth 100000 in
theorem mt_X4_markOfLook (l : Launch) (dC : Nat → ClassId) (dI : Nat → Nat → Nat) (p0 : Int32) (Q : Int32 → Prop) (w : w_X4_markOfLook p0 Q) (sz : Nat) : Met l yX4_markOfLook (WS yX4_markOfLook cX4_markOfLook 1 (some (.int))) ({ frames := 0, cells := 0, slots := 0, locals := 0 } : Room) (va_Pc [.int p0] (fun U => U.heap.size = sz ∧ va_P (dC, dI) vwCl [] U.heap ∧ va_K (dC, dI) vwCl [] U ∧ va_D (fun _ => True) [])) (va_Qi (fun (r u : Int32) => r = u) (fun (u : Int32) (t : State) => (Q u) ∧ va_P (dC, dI) vwCl [] t.heap ∧ va_D (va_A [] sz) []) (va_A [] sz)) 0 0 (va_A [] sz) := by
  refine Met.ofW (cc := cX4_markOfLook) (maxL := 1) (ret := (some (.int))) (by decide) rfl ?_
  intro p e s m args below meth c s₁ B hml hv
  obtain ⟨rfl, hsz, hP, hK, hD0⟩ := hv
  have hx := B.exec
  have hb := B.bytes
  have hr := B.returns
  have hts := atoms_spec (ws := WS yX4_markOfLook cX4_markOfLook 1 (some (.int))) B.pre
  have ht : ∀ w ∈ TW, w.before _ s = true := fun w h => hts w (List.mem_cons_of_mem _ h)
  have hown : s.vm.findClass "PatternWorkshop$Printer" = some m.cls := findClass_of_methodNamed B.named
  have hlocks := B.notSynchronized
  subst hsz
  have hD := hD0.self (sz := s.heap.size)
  generalize hAe : va_A [] s.heap.size = A at hD ⊢
  have hA : ∀ q : Nat, s.heap.size ≤ q → A q := fun q h => by rw [← hAe]; exact Or.inr h
  have hS : va_S A s.heap s.heap [] := va_S.rf
  have hP : va_P (dC, dI) vwCl [] s.heap := hP
  have hl := lv_entry ([.int p0]) (n := 1) (Nat.le_of_ble_eq_true rfl)
  rw [lg_entry_eq]
  generalize (lg_sl ([.int p0]) ++ List.replicate (1 - (lg_sl ([.int p0])).length) Slot.unset).toArray = ls at hl ⊢
  have hl : lv_has ls 1 [(0, .int p0)] := hl
  clear hD0
  obtain ⟨QQ, hQQ⟩ : ∃ QQ, QQ = MQ below (va_Qi (fun (r u : Int32) => r = u) (fun (u : Int32) (t : State) => (Q u) ∧ va_P (dC, dI) vwCl [] t.heap ∧ va_D A []) A) ([.int p0]).toArray s 0 0 A := ⟨_, rfl⟩
  show W p l e ({ frames := 0, cells := 0, slots := 0, locals := 0 } : Room) s m ([.int p0]).toArray below meth c s.heap [] 0 0 (MQ below (va_Qi (fun (r u : Int32) => r = u) (fun (u : Int32) (t : State) => (Q u) ∧ va_P (dC, dI) vwCl [] t.heap ∧ va_D A []) A) ([.int p0]).toArray s 0 0 A) (F0 m 0 ls [])
  rw [← hQQ]
  unfold w_X4_markOfLook at w
  refine lv_iload_n hx hb dX4_markOfLook_0 rfl (lv_at hl 0 rfl) ?_
  by_cases c_1_0 : p0 = 0
  · refine lv_tableIn (tgt := 28) (off := 27) hx hb dX4_markOfLook_1 (by rw [c_1_0]; decide) (by rw [c_1_0]; decide) (by rw [c_1_0]; decide) (by decide) ?_
    refine lv_bipush (v := 61) hx hb dX4_markOfLook_28 (by decide) ?_
    rw [hQQ]
    exact W.iret (v := 61) hx hb hr (fun t9 ht9 hW9 => ⟨⟨61, 61, rfl, rfl, ⟨w.1 c_1_0, by rw [ht9]; exact hP, hD⟩⟩, hS.F ht9⟩) hS.2.2 dX4_markOfLook_30
  by_cases c_1_1 : p0 = 1
  · refine lv_tableIn (tgt := 31) (off := 30) hx hb dX4_markOfLook_1 (by rw [c_1_1]; decide) (by rw [c_1_1]; decide) (by rw [c_1_1]; decide) (by decide) ?_
    refine lv_bipush (v := 33) hx hb dX4_markOfLook_31 (by decide) ?_
    rw [hQQ]
    exact W.iret (v := 33) hx hb hr (fun t9 ht9 hW9 => ⟨⟨33, 33, rfl, rfl, ⟨w.2.1 c_1_1, by rw [ht9]; exact hP, hD⟩⟩, hS.F ht9⟩) hS.2.2 dX4_markOfLook_33
  by_cases c_1_2 : p0 = 2
  · refine lv_tableIn (tgt := 34) (off := 33) hx hb dX4_markOfLook_1 (by rw [c_1_2]; decide) (by rw [c_1_2]; decide) (by rw [c_1_2]; decide) (by decide) ?_
    refine lv_bipush (v := 60) hx hb dX4_markOfLook_34 (by decide) ?_
    rw [hQQ]
    exact W.iret (v := 60) hx hb hr (fun t9 ht9 hW9 => ⟨⟨60, 60, rfl, rfl, ⟨w.2.2.1 c_1_2, by rw [ht9]; exact hP, hD⟩⟩, hS.F ht9⟩) hS.2.2 dX4_markOfLook_36
  have i_1 : ¬ (p0.toInt = 0 ∨ p0.toInt = 1 ∨ p0.toInt = 2) := by
    rintro (h9 | h9 | h9)
    · exact c_1_0 (Int32.toInt_inj.mp h9)
    · exact c_1_1 (Int32.toInt_inj.mp h9)
    · exact c_1_2 (Int32.toInt_inj.mp h9)
  refine lv_tableOut (tgt := 37) hx hb dX4_markOfLook_1 (by omega) (by decide) ?_
  refine lv_bipush (v := 126) hx hb dX4_markOfLook_37 (by decide) ?_
  rw [hQQ]
  exact W.iret (v := 126) hx hb hr (fun t9 ht9 hW9 => ⟨⟨126, 126, rfl, rfl, ⟨w.2.2.2 c_1_0 c_1_1 c_1_2, by rw [ht9]; exact hP, hD⟩⟩, hS.F ht9⟩) hS.2.2 dX4_markOfLook_39
def w_X4_isGrouped_52 (Q : Int32 → Prop) (s0_52 : Int32) : Prop :=
  (s0_52 = 0 ∨ s0_52 = 1) ∧ Q s0_52
def w_X4_isGrouped_47 (Q : Int32 → Prop) : Prop :=
  w_X4_isGrouped_52 Q 1
def w_X4_isGrouped_75 (Q : Int32 → Prop) (s0_75 : Int32) : Prop :=
  (s0_75 = 0 ∨ s0_75 = 1) ∧ Q s0_75
def w_X4_isGrouped_70 (Q : Int32 → Prop) : Prop :=
  w_X4_isGrouped_75 Q 1
def w_X4_isGrouped_87 (Q : Int32 → Prop) (s0_87 : Int32) : Prop :=
  (s0_87 = 0 ∨ s0_87 = 1) ∧ Q s0_87
def w_X4_isGrouped (p0 : Int32) (p1 : Int32) (p2 : Int32) (Q : Int32 → Prop) : Prop :=
  ((¬ p2 = (-1)) → ((p0 = 5) → ((p1 = 5) → w_X4_isGrouped_47 Q) ∧ ((¬ p1 = 5) → ((¬ p1 = 7) → w_X4_isGrouped_52 Q 0) ∧ ((p1 = 7) → w_X4_isGrouped_47 Q))) ∧ ((p0 = 6) → ((p1 = 5) → w_X4_isGrouped_70 Q) ∧ ((¬ p1 = 5) → ((p1 = 7) → w_X4_isGrouped_70 Q) ∧ ((¬ p1 = 7) → ((¬ p1 = 6) → w_X4_isGrouped_75 Q 0) ∧ ((p1 = 6) → w_X4_isGrouped_70 Q)))) ∧ ((p0 = 7) → ((¬ p1 = 7) → w_X4_isGrouped_87 Q 0) ∧ ((p1 = 7) → w_X4_isGrouped_87 Q 1)) ∧ ((¬ p0 = 5) → (¬ p0 = 6) → (¬ p0 = 7) → Q 0)) ∧ ((p2 = (-1)) → Q 0)
set_option maxHeartbeats 4000000 in
set_option maxRecDepth 100000 in
theorem mt_X4_isGrouped (l : Launch) (dC : Nat → ClassId) (dI : Nat → Nat → Nat) (p0 : Int32) (p1 : Int32) (p2 : Int32) (Q : Int32 → Prop) (w : w_X4_isGrouped p0 p1 p2 Q) (sz : Nat) : Met l yX4_isGrouped (WS yX4_isGrouped cX4_isGrouped 3 (some (.boolean))) ({ frames := 0, cells := 0, slots := 0, locals := 0 } : Room) (va_Pc [.int p0, .int p1, .int p2] (fun U => U.heap.size = sz ∧ va_P (dC, dI) vwCl [] U.heap ∧ va_K (dC, dI) vwCl [] U ∧ va_D (fun _ => True) [])) (va_Qi (fun (r u : Int32) => r = u) (fun (u : Int32) (t : State) => (Q u) ∧ va_P (dC, dI) vwCl [] t.heap ∧ va_D (va_A [] sz) []) (va_A [] sz)) 0 0 (va_A [] sz) := by
  refine Met.ofW (cc := cX4_isGrouped) (maxL := 3) (ret := (some (.boolean))) (by decide) rfl ?_
  intro p e s m args below meth c s₁ B hml hv
  obtain ⟨rfl, hsz, hP, hK, hD0⟩ := hv
  have hx := B.exec
  have hb := B.bytes
  have hr := B.returns
  have hts := atoms_spec (ws := WS yX4_isGrouped cX4_isGrouped 3 (some (.boolean))) B.pre
  have ht : ∀ w ∈ TW, w.before _ s = true := fun w h => hts w (List.mem_cons_of_mem _ h)
  have hown : s.vm.findClass "PatternWorkshop$Printer" = some m.cls := findClass_of_methodNamed B.named
  have hlocks := B.notSynchronized
  subst hsz
  have hD := hD0.self (sz := s.heap.size)
  generalize hAe : va_A [] s.heap.size = A at hD ⊢
  have hA : ∀ q : Nat, s.heap.size ≤ q → A q := fun q h => by rw [← hAe]; exact Or.inr h
  have hS : va_S A s.heap s.heap [] := va_S.rf
  have hP : va_P (dC, dI) vwCl [] s.heap := hP
  have hl := lv_entry ([.int p0, .int p1, .int p2]) (n := 3) (Nat.le_of_ble_eq_true rfl)
  rw [lg_entry_eq]
  generalize (lg_sl ([.int p0, .int p1, .int p2]) ++ List.replicate (3 - (lg_sl ([.int p0, .int p1, .int p2])).length) Slot.unset).toArray = ls at hl ⊢
  have hl : lv_has ls 3 [(0, .int p0), (1, .int p1), (2, .int p2)] := hl
  clear hD0
  obtain ⟨QQ, hQQ⟩ : ∃ QQ, QQ = MQ below (va_Qi (fun (r u : Int32) => r = u) (fun (u : Int32) (t : State) => (Q u) ∧ va_P (dC, dI) vwCl [] t.heap ∧ va_D A []) A) ([.int p0, .int p1, .int p2]).toArray s 0 0 A := ⟨_, rfl⟩
  show W p l e ({ frames := 0, cells := 0, slots := 0, locals := 0 } : Room) s m ([.int p0, .int p1, .int p2]).toArray below meth c s.heap [] 0 0 (MQ below (va_Qi (fun (r u : Int32) => r = u) (fun (u : Int32) (t : State) => (Q u) ∧ va_P (dC, dI) vwCl [] t.heap ∧ va_D A []) A) ([.int p0, .int p1, .int p2]).toArray s 0 0 A) (F0 m 0 ls [])
  rw [← hQQ]
  unfold w_X4_isGrouped at w
  refine lv_iload_n hx hb dX4_isGrouped_0 rfl (lv_at hl 2 rfl) ?_
  refine lv_iconst (v := (-1)) hx hb dX4_isGrouped_1 (by decide) ?_
  refine lv_icmp_ne (tgt := 7) hx hb dX4_isGrouped_2 (by decide) (fun c_1 => ?_) (fun c_1 => ?_)
  · refine lv_iload_n hx hb dX4_isGrouped_7 rfl (lv_at hl 0 rfl) ?_
    by_cases c_2_0 : p0 = 5
    · refine lv_tableIn (tgt := 36) (off := 28) hx hb dX4_isGrouped_8 (by rw [c_2_0]; decide) (by rw [c_2_0]; decide) (by rw [c_2_0]; decide) (by decide) ?_
      refine lv_iload_n hx hb dX4_isGrouped_36 rfl (lv_at hl 1 rfl) ?_
      refine lv_iconst (v := 5) hx hb dX4_isGrouped_37 (by decide) ?_
      have k_52 : ∀ (s0_52 : Int32), ∀ (H_b52 : Heap) (locs_b52 : List Loc) (ls_b52 : Array Slot), w_X4_isGrouped_52 Q s0_52 → va_P (dC, dI) vwCl [] H_b52 → va_D A [] → va_S A s.heap H_b52 locs_b52 → lv_has ls_b52 3 [] → W p l e ({ frames := 0, cells := 0, slots := 0, locals := 0 } : Room) s m ([.int p0, .int p1, .int p2]).toArray below meth c H_b52 locs_b52 0 0 QQ (F0 m 52 ls_b52 [.int s0_52]) := by
        intro s0_52 H_b52 locs_b52 ls_b52 w_b52 hP_b52 hD_b52 hS_b52 hl_b52
        unfold w_X4_isGrouped_52 at w_b52
        rw [hQQ]
        exact W.zret (v := s0_52) hx hb hr (or_nar w_b52.1) (fun t9 ht9 hW9 => ⟨⟨s0_52, s0_52, rfl, rfl, ⟨w_b52.2, by rw [ht9]; exact hP_b52, hD_b52⟩⟩, hS_b52.F ht9⟩) hS_b52.2.2 dX4_isGrouped_52
      have k_47 : ∀ (H_b47 : Heap) (locs_b47 : List Loc) (ls_b47 : Array Slot), w_X4_isGrouped_47 Q → va_P (dC, dI) vwCl [] H_b47 → va_D A [] → va_S A s.heap H_b47 locs_b47 → lv_has ls_b47 3 [] → W p l e ({ frames := 0, cells := 0, slots := 0, locals := 0 } : Room) s m ([.int p0, .int p1, .int p2]).toArray below meth c H_b47 locs_b47 0 0 QQ (F0 m 47 ls_b47 []) := by
        intro  H_b47 locs_b47 ls_b47 w_b47 hP_b47 hD_b47 hS_b47 hl_b47
        unfold w_X4_isGrouped_47 at w_b47
        refine lv_iconst (v := 1) hx hb dX4_isGrouped_47 (by decide) ?_
        refine lv_goto (tgt := 52) hx hb dX4_isGrouped_48 (by decide) ?_
        exact k_52 1 _ _ _ w_b47 hP_b47 hD_b47 hS_b47 (lv_sub hl_b47 [] rfl)
      refine lv_icmp_eq (tgt := 47) hx hb dX4_isGrouped_38 (by decide) (fun c_3 => ?_) (fun c_3 => ?_)
      · exact k_47  _ _ _ (((w.1 c_1).1 c_2_0).1 c_3) hP hD hS (lv_sub hl [] rfl)
      · refine lv_iload_n hx hb dX4_isGrouped_41 rfl (lv_at hl 1 rfl) ?_
        refine lv_bipush (v := 7) hx hb dX4_isGrouped_42 (by decide) ?_
        refine lv_icmp_ne (tgt := 51) hx hb dX4_isGrouped_44 (by decide) (fun c_4 => ?_) (fun c_4 => ?_)
        · refine lv_iconst (v := 0) hx hb dX4_isGrouped_51 (by decide) ?_
          exact k_52 0 _ _ _ ((((w.1 c_1).1 c_2_0).2 c_3).1 c_4) hP hD hS (lv_sub hl [] rfl)
        · exact k_47  _ _ _ ((((w.1 c_1).1 c_2_0).2 c_3).2 c_4) hP hD hS (lv_sub hl [] rfl)
    by_cases c_2_1 : p0 = 6
    · refine lv_tableIn (tgt := 53) (off := 45) hx hb dX4_isGrouped_8 (by rw [c_2_1]; decide) (by rw [c_2_1]; decide) (by rw [c_2_1]; decide) (by decide) ?_
      refine lv_iload_n hx hb dX4_isGrouped_53 rfl (lv_at hl 1 rfl) ?_
      refine lv_iconst (v := 5) hx hb dX4_isGrouped_54 (by decide) ?_
      have k_75 : ∀ (s0_75 : Int32), ∀ (H_b75 : Heap) (locs_b75 : List Loc) (ls_b75 : Array Slot), w_X4_isGrouped_75 Q s0_75 → va_P (dC, dI) vwCl [] H_b75 → va_D A [] → va_S A s.heap H_b75 locs_b75 → lv_has ls_b75 3 [] → W p l e ({ frames := 0, cells := 0, slots := 0, locals := 0 } : Room) s m ([.int p0, .int p1, .int p2]).toArray below meth c H_b75 locs_b75 0 0 QQ (F0 m 75 ls_b75 [.int s0_75]) := by
        intro s0_75 H_b75 locs_b75 ls_b75 w_b75 hP_b75 hD_b75 hS_b75 hl_b75
        unfold w_X4_isGrouped_75 at w_b75
        rw [hQQ]
        exact W.zret (v := s0_75) hx hb hr (or_nar w_b75.1) (fun t9 ht9 hW9 => ⟨⟨s0_75, s0_75, rfl, rfl, ⟨w_b75.2, by rw [ht9]; exact hP_b75, hD_b75⟩⟩, hS_b75.F ht9⟩) hS_b75.2.2 dX4_isGrouped_75
      have k_70 : ∀ (H_b70 : Heap) (locs_b70 : List Loc) (ls_b70 : Array Slot), w_X4_isGrouped_70 Q → va_P (dC, dI) vwCl [] H_b70 → va_D A [] → va_S A s.heap H_b70 locs_b70 → lv_has ls_b70 3 [] → W p l e ({ frames := 0, cells := 0, slots := 0, locals := 0 } : Room) s m ([.int p0, .int p1, .int p2]).toArray below meth c H_b70 locs_b70 0 0 QQ (F0 m 70 ls_b70 []) := by
        intro  H_b70 locs_b70 ls_b70 w_b70 hP_b70 hD_b70 hS_b70 hl_b70
        unfold w_X4_isGrouped_70 at w_b70
        refine lv_iconst (v := 1) hx hb dX4_isGrouped_70 (by decide) ?_
        refine lv_goto (tgt := 75) hx hb dX4_isGrouped_71 (by decide) ?_
        exact k_75 1 _ _ _ w_b70 hP_b70 hD_b70 hS_b70 (lv_sub hl_b70 [] rfl)
      refine lv_icmp_eq (tgt := 70) hx hb dX4_isGrouped_55 (by decide) (fun c_5 => ?_) (fun c_5 => ?_)
      · exact k_70  _ _ _ ((((w.1 c_1).2).1 c_2_1).1 c_5) hP hD hS (lv_sub hl [] rfl)
      · refine lv_iload_n hx hb dX4_isGrouped_58 rfl (lv_at hl 1 rfl) ?_
        refine lv_bipush (v := 7) hx hb dX4_isGrouped_59 (by decide) ?_
        refine lv_icmp_eq (tgt := 70) hx hb dX4_isGrouped_61 (by decide) (fun c_6 => ?_) (fun c_6 => ?_)
        · exact k_70  _ _ _ (((((w.1 c_1).2).1 c_2_1).2 c_5).1 c_6) hP hD hS (lv_sub hl [] rfl)
        · refine lv_iload_n hx hb dX4_isGrouped_64 rfl (lv_at hl 1 rfl) ?_
          refine lv_bipush (v := 6) hx hb dX4_isGrouped_65 (by decide) ?_
          refine lv_icmp_ne (tgt := 74) hx hb dX4_isGrouped_67 (by decide) (fun c_7 => ?_) (fun c_7 => ?_)
          · refine lv_iconst (v := 0) hx hb dX4_isGrouped_74 (by decide) ?_
            have w_8 := (((((w.1 c_1).2).1 c_2_1).2 c_5).2 c_6).1 c_7
            exact k_75 0 _ _ _ w_8 hP hD hS (lv_sub hl [] rfl)
          · have w_9 := (((((w.1 c_1).2).1 c_2_1).2 c_5).2 c_6).2 c_7
            exact k_70  _ _ _ w_9 hP hD hS (lv_sub hl [] rfl)
    by_cases c_2_2 : p0 = 7
    · refine lv_tableIn (tgt := 76) (off := 68) hx hb dX4_isGrouped_8 (by rw [c_2_2]; decide) (by rw [c_2_2]; decide) (by rw [c_2_2]; decide) (by decide) ?_
      refine lv_iload_n hx hb dX4_isGrouped_76 rfl (lv_at hl 1 rfl) ?_
      refine lv_bipush (v := 7) hx hb dX4_isGrouped_77 (by decide) ?_
      have k_87 : ∀ (s0_87 : Int32), ∀ (H_b87 : Heap) (locs_b87 : List Loc) (ls_b87 : Array Slot), w_X4_isGrouped_87 Q s0_87 → va_P (dC, dI) vwCl [] H_b87 → va_D A [] → va_S A s.heap H_b87 locs_b87 → lv_has ls_b87 3 [] → W p l e ({ frames := 0, cells := 0, slots := 0, locals := 0 } : Room) s m ([.int p0, .int p1, .int p2]).toArray below meth c H_b87 locs_b87 0 0 QQ (F0 m 87 ls_b87 [.int s0_87]) := by
        intro s0_87 H_b87 locs_b87 ls_b87 w_b87 hP_b87 hD_b87 hS_b87 hl_b87
        unfold w_X4_isGrouped_87 at w_b87
        rw [hQQ]
        exact W.zret (v := s0_87) hx hb hr (or_nar w_b87.1) (fun t9 ht9 hW9 => ⟨⟨s0_87, s0_87, rfl, rfl, ⟨w_b87.2, by rw [ht9]; exact hP_b87, hD_b87⟩⟩, hS_b87.F ht9⟩) hS_b87.2.2 dX4_isGrouped_87
      refine lv_icmp_ne (tgt := 86) hx hb dX4_isGrouped_79 (by decide) (fun c_10 => ?_) (fun c_10 => ?_)
      · refine lv_iconst (v := 0) hx hb dX4_isGrouped_86 (by decide) ?_
        exact k_87 0 _ _ _ (((((w.1 c_1).2).2).1 c_2_2).1 c_10) hP hD hS (lv_sub hl [] rfl)
      · refine lv_iconst (v := 1) hx hb dX4_isGrouped_82 (by decide) ?_
        refine lv_goto (tgt := 87) hx hb dX4_isGrouped_83 (by decide) ?_
        exact k_87 1 _ _ _ (((((w.1 c_1).2).2).1 c_2_2).2 c_10) hP hD hS (lv_sub hl [] rfl)
    have i_2 : ¬ (p0.toInt = 5 ∨ p0.toInt = 6 ∨ p0.toInt = 7) := by
      rintro (h9 | h9 | h9)
      · exact c_2_0 (Int32.toInt_inj.mp h9)
      · exact c_2_1 (Int32.toInt_inj.mp h9)
      · exact c_2_2 (Int32.toInt_inj.mp h9)
    refine lv_tableOut (tgt := 88) hx hb dX4_isGrouped_8 (by omega) (by decide) ?_
    refine lv_iconst (v := 0) hx hb dX4_isGrouped_88 (by decide) ?_
    rw [hQQ]
    exact W.zret (v := 0) hx hb hr rfl (fun t9 ht9 hW9 => ⟨⟨0, 0, rfl, rfl, ⟨((((w.1 c_1).2).2).2) c_2_0 c_2_1 c_2_2, by rw [ht9]; exact hP, hD⟩⟩, hS.F ht9⟩) hS.2.2 dX4_isGrouped_89
  · refine lv_iconst (v := 0) hx hb dX4_isGrouped_5 (by decide) ?_
    rw [hQQ]
    exact W.zret (v := 0) hx hb hr rfl (fun t9 ht9 hW9 => ⟨⟨0, 0, rfl, rfl, ⟨w.2 c_1, by rw [ht9]; exact hP, hD⟩⟩, hS.F ht9⟩) hS.2.2 dX4_isGrouped_6
def w_X4_writeEdge_54 (Q : Int32 → Bool → (Nat → Int32) → Prop) (v_row_count_54 : Int32) (v_row_over_54 : Bool) (v_row_items_54 : Nat → Int32) : Prop :=
  Q  v_row_count_54 v_row_over_54 v_row_items_54
def w_X4_writeEdge_51 (nv_row_items : Nat) (Q : Int32 → Bool → (Nat → Int32) → Prop) (s0_51 : Int32) (v_row_count_51 : Int32) (v_row_over_51 : Bool) (v_row_items_51 : Nat → Int32) : Prop :=
  w_X7_add s0_51 v_row_count_51 v_row_over_51 v_row_items_51 nv_row_items (fun r_3_0 r_3_1 r_3_2 => w_X4_writeEdge_54 Q r_3_0 r_3_1 r_3_2)
def w_X4_writeEdge_20 (nv_row_items : Nat) (Q : Int32 → Bool → (Nat → Int32) → Prop) (s0_20 : Int32) (v_row_count_20 : Int32) (v_row_over_20 : Bool) (v_row_items_20 : Nat → Int32) : Prop :=
  w_X7_add s0_20 v_row_count_20 v_row_over_20 v_row_items_20 nv_row_items (fun r_5_0 r_5_1 r_5_2 => w_X4_writeEdge_54 Q r_5_0 r_5_1 r_5_2)
def w_X4_writeEdge (p1 : Int32) (v_row_count : Int32) (v_row_over : Bool) (v_row_items : Nat → Int32) (nv_row_items : Nat) (Q : Int32 → Bool → (Nat → Int32) → Prop) : Prop :=
  ((2 ≤ p1) → w_X7_add 92 v_row_count v_row_over v_row_items nv_row_items (fun r_2_0 r_2_1 r_2_2 => ((¬ p1 = 2) → w_X4_writeEdge_51 nv_row_items Q 66 r_2_0 r_2_1 r_2_2) ∧ ((p1 = 2) → w_X4_writeEdge_51 nv_row_items Q 98 r_2_0 r_2_1 r_2_2))) ∧ ((¬ 2 ≤ p1) → ((¬ p1 = 0) → w_X4_writeEdge_20 nv_row_items Q 36 v_row_count v_row_over v_row_items) ∧ ((p1 = 0) → w_X4_writeEdge_20 nv_row_items Q 94 v_row_count v_row_over v_row_items))
set_option maxHeartbeats 4000000 in
set_option maxRecDepth 100000 in
theorem mt_X4_writeEdge (l : Launch) (dC : Nat → ClassId) (dI : Nat → Nat → Nat) (h0 h1 h2 : Nat) (k0 : ClassId) (p1 : Int32) (v_row_count : Int32) (v_row_over : Bool) (v_row_there : Bool) (v_row_items : Nat → Int32) (nv_row_items : Nat) (v_behindOpening : Int32) (Q : Int32 → Bool → (Nat → Int32) → Prop) (w : w_X4_writeEdge p1 v_row_count v_row_over v_row_items nv_row_items Q) (sz : Nat) : Met l yX4_writeEdge (WS yX4_writeEdge cX4_writeEdge 2 none) ({ frames := 1, cells := 0, slots := 0, locals := 21 } : Room) (va_Pc [.ref h0, .int p1] (fun U => U.heap.size = sz ∧ va_P (dC, dI) vwCl [(h1, .inr (10, oX7 (.ref h2) v_row_count v_row_over v_row_there)), (h2, .inl (k0, nv_row_items, .inl v_row_items)), (h0, .inr (7, oX4 (.ref h1) v_behindOpening))] U.heap ∧ va_K (dC, dI) vwCl [(k0, .int)] U ∧ va_D (fun _ => True) [(h1, .inr (10, oX7 (.ref h2) v_row_count v_row_over v_row_there)), (h2, .inl (k0, nv_row_items, .inl v_row_items)), (h0, .inr (7, oX4 (.ref h1) v_behindOpening))])) (va_Qv (fun (u : Nat) => u = 0) (fun (_ : Nat) (t : State) => ∃ (ov_row_count : Int32), ∃ (ov_row_over : Bool), ∃ (ov_row_items : Nat → Int32), (Q ov_row_count ov_row_over ov_row_items) ∧ va_P (dC, dI) vwCl [(h1, .inr (10, oX7 (.ref h2) ov_row_count ov_row_over v_row_there)), (h2, .inl (k0, nv_row_items, .inl ov_row_items)), (h0, .inr (7, oX4 (.ref h1) v_behindOpening))] t.heap ∧ va_D (va_A [(h1, .inr (10, oX7 (.ref h2) v_row_count v_row_over v_row_there)), (h2, .inl (k0, nv_row_items, .inl v_row_items)), (h0, .inr (7, oX4 (.ref h1) v_behindOpening))] sz) [(h1, .inr (10, oX7 (.ref h2) ov_row_count ov_row_over v_row_there)), (h2, .inl (k0, nv_row_items, .inl ov_row_items)), (h0, .inr (7, oX4 (.ref h1) v_behindOpening))]) (va_A [(h1, .inr (10, oX7 (.ref h2) v_row_count v_row_over v_row_there)), (h2, .inl (k0, nv_row_items, .inl v_row_items)), (h0, .inr (7, oX4 (.ref h1) v_behindOpening))] sz)) 0 0 (va_A [(h1, .inr (10, oX7 (.ref h2) v_row_count v_row_over v_row_there)), (h2, .inl (k0, nv_row_items, .inl v_row_items)), (h0, .inr (7, oX4 (.ref h1) v_behindOpening))] sz) := by
  refine Met.ofW (cc := cX4_writeEdge) (maxL := 2) (ret := none) (by decide) rfl ?_
  intro p e s m args below meth c s₁ B hml hv
  obtain ⟨rfl, hsz, hP, hK, hD0⟩ := hv
  have hx := B.exec
  have hb := B.bytes
  have hr := B.returns
  have hts := atoms_spec (ws := WS yX4_writeEdge cX4_writeEdge 2 none) B.pre
  have ht : ∀ w ∈ TW, w.before _ s = true := fun w h => hts w (List.mem_cons_of_mem _ h)
  have hown : s.vm.findClass "PatternWorkshop$Printer" = some m.cls := findClass_of_methodNamed B.named
  have hlocks := B.notSynchronized
  subst hsz
  have hD := hD0.self (sz := s.heap.size)
  generalize hAe : va_A [(h1, .inr (10, oX7 (.ref h2) v_row_count v_row_over v_row_there)), (h2, .inl (k0, nv_row_items, .inl v_row_items)), (h0, .inr (7, oX4 (.ref h1) v_behindOpening))] s.heap.size = A at hD ⊢
  have hA : ∀ q : Nat, s.heap.size ≤ q → A q := fun q h => by rw [← hAe]; exact Or.inr h
  have hS : va_S A s.heap s.heap [] := va_S.rf
  have hP : va_P (dC, dI) vwCl [(h1, .inr (10, oX7 (.ref h2) v_row_count v_row_over v_row_there)), (h2, .inl (k0, nv_row_items, .inl v_row_items)), (h0, .inr (7, oX4 (.ref h1) v_behindOpening))] s.heap := hP
  have hl := lv_entry ([.ref h0, .int p1]) (n := 2) (Nat.le_of_ble_eq_true rfl)
  rw [lg_entry_eq]
  generalize (lg_sl ([.ref h0, .int p1]) ++ List.replicate (2 - (lg_sl ([.ref h0, .int p1])).length) Slot.unset).toArray = ls at hl ⊢
  have hl : lv_has ls 2 [(0, .ref h0), (1, .int p1)] := hl
  clear hD0
  obtain ⟨QQ, hQQ⟩ : ∃ QQ, QQ = MQ below (va_Qv (fun (u : Nat) => u = 0) (fun (_ : Nat) (t : State) => ∃ (ov_row_count : Int32), ∃ (ov_row_over : Bool), ∃ (ov_row_items : Nat → Int32), (Q ov_row_count ov_row_over ov_row_items) ∧ va_P (dC, dI) vwCl [(h1, .inr (10, oX7 (.ref h2) ov_row_count ov_row_over v_row_there)), (h2, .inl (k0, nv_row_items, .inl ov_row_items)), (h0, .inr (7, oX4 (.ref h1) v_behindOpening))] t.heap ∧ va_D A [(h1, .inr (10, oX7 (.ref h2) ov_row_count ov_row_over v_row_there)), (h2, .inl (k0, nv_row_items, .inl ov_row_items)), (h0, .inr (7, oX4 (.ref h1) v_behindOpening))]) A) ([.ref h0, .int p1]).toArray s 0 0 A := ⟨_, rfl⟩
  show W p l e ({ frames := 1, cells := 0, slots := 0, locals := 21 } : Room) s m ([.ref h0, .int p1]).toArray below meth c s.heap [] 0 0 (MQ below (va_Qv (fun (u : Nat) => u = 0) (fun (_ : Nat) (t : State) => ∃ (ov_row_count : Int32), ∃ (ov_row_over : Bool), ∃ (ov_row_items : Nat → Int32), (Q ov_row_count ov_row_over ov_row_items) ∧ va_P (dC, dI) vwCl [(h1, .inr (10, oX7 (.ref h2) ov_row_count ov_row_over v_row_there)), (h2, .inl (k0, nv_row_items, .inl ov_row_items)), (h0, .inr (7, oX4 (.ref h1) v_behindOpening))] t.heap ∧ va_D A [(h1, .inr (10, oX7 (.ref h2) ov_row_count ov_row_over v_row_there)), (h2, .inl (k0, nv_row_items, .inl ov_row_items)), (h0, .inr (7, oX4 (.ref h1) v_behindOpening))]) A) ([.ref h0, .int p1]).toArray s 0 0 A) (F0 m 0 ls [])
  rw [← hQQ]
  unfold w_X4_writeEdge at w
  refine lv_iload_n hx hb dX4_writeEdge_0 rfl (lv_at hl 1 rfl) ?_
  refine lv_iconst (v := 2) hx hb dX4_writeEdge_1 (by decide) ?_
  have k_54 : ∀ (v_row_count_54 : Int32) (v_row_over_54 : Bool) (v_row_items_54 : Nat → Int32), ∀ (H_b54 : Heap) (locs_b54 : List Loc) (ls_b54 : Array Slot), w_X4_writeEdge_54 Q v_row_count_54 v_row_over_54 v_row_items_54 → va_P (dC, dI) vwCl [(h1, .inr (10, oX7 (.ref h2) v_row_count_54 v_row_over_54 v_row_there)), (h2, .inl (k0, nv_row_items, .inl v_row_items_54)), (h0, .inr (7, oX4 (.ref h1) v_behindOpening))] H_b54 → va_D A [(h1, .inr (10, oX7 (.ref h2) v_row_count_54 v_row_over_54 v_row_there)), (h2, .inl (k0, nv_row_items, .inl v_row_items_54)), (h0, .inr (7, oX4 (.ref h1) v_behindOpening))] → va_S A s.heap H_b54 locs_b54 → lv_has ls_b54 2 [] → W p l e ({ frames := 1, cells := 0, slots := 0, locals := 21 } : Room) s m ([.ref h0, .int p1]).toArray below meth c H_b54 locs_b54 0 0 QQ (F0 m 54 ls_b54 []) := by
    intro v_row_count_54 v_row_over_54 v_row_items_54 H_b54 locs_b54 ls_b54 w_b54 hP_b54 hD_b54 hS_b54 hl_b54
    unfold w_X4_writeEdge_54 at w_b54
    rw [hQQ]
    exact W.vret hx hb hr (fun t9 ht9 hW9 => ⟨⟨0, rfl, rfl, ⟨v_row_count_54, v_row_over_54, v_row_items_54, w_b54, by rw [ht9]; exact hP_b54, hD_b54⟩⟩, hS_b54.F ht9⟩) hS_b54.2.2 dX4_writeEdge_54
  refine lv_icmp_ge (tgt := 26) hx hb dX4_writeEdge_2 (by decide) (fun c_1 => ?_) (fun c_1 => ?_)
  · refine lv_aload_n hx hb dX4_writeEdge_26 rfl (lv_at hl 0 rfl) ?_
    refine va_get (D := (dC, dI)) (ci := 7) (v := .ref h1) (C := RX4) (T := TX4) (N := 2) hx hb ht inX4 hown hK hP 2 rfl rfl 0 (by decide) (ht _ tw_503) (fun _ h9 => h9) rfl dX4_writeEdge_27 ?_
    refine lv_bipush (v := 92) hx hb dX4_writeEdge_30 (by decide) ?_
    have hPc_2 := vaPq hP (wsq := [(h1, .inr (10, oX7 (.ref h2) v_row_count v_row_over v_row_there)), (h2, .inl (k0, nv_row_items, .inl v_row_items))]) [0, 1] rfl
    have hDc_2 := vaDq hD (wsq := [(h1, .inr (10, oX7 (.ref h2) v_row_count v_row_over v_row_there)), (h2, .inl (k0, nv_row_items, .inl v_row_items))]) [0, 1] (by decide) rfl
    have hKc_2 := vaKq hK (tysq := [(k0, .int)]) [0] rfl
    have hFc_2 := va_free (wc := [(h1, .inr (10, oX7 (.ref h2) v_row_count v_row_over v_row_there)), (h2, .inl (k0, nv_row_items, .inl v_row_items))]) hD hS hA [0, 1] rfl
    refine va_callv (va_runV (As := [.int 92]) (rest := []) ⟨hx, hb, hml, hown, ht⟩ (mt_X7_add l dC dI h1 h2 k0 92 v_row_count v_row_over v_row_there v_row_items nv_row_items _ (w.1 c_1) s.heap.size) (cwV 1 ht (goodV tw_1209 tw_866 tw_867 tw_237 gw_X7_add) rfl rfl rfl (by decide +kernel) ⟨Nat.le_of_ble_eq_true rfl, Nat.le_of_ble_eq_true rfl⟩) ⟨fun a U g mk q => by obtain ⟨q0, q1, qP, qK, qD⟩ := q; exact ⟨q0, q1, qP, va_K.moved (u := U) (U := U.calling g mk a) (Vm.Alike.refl U.vm) qK, qD⟩, va_recv hKc_2 hPc_2 (ci := 10) (q0 := 0) rfl rfl, fun U hU hW => ⟨rfl, by rw [hU], by rw [hU]; exact hPc_2, va_K.moved hW.alike hKc_2, hDc_2.weaken (fun _ _ _ _ => trivial)⟩⟩ rfl rfl hl.1 rfl (lv_room (Nat.le_of_ble_eq_true rfl)) dX4_writeEdge_32 ⟨Nat.le_of_ble_eq_true rfl, Nat.le_of_ble_eq_true rfl⟩) hS (fun q _ h => hFc_2 q h) hFc_2 (fun u_2 t_2 H_2 locs_2 ht_2 hvm_2 hw_2 hB_2 hz_2 hk_2 hS_2 => ?_)
    subst hw_2
    obtain ⟨r_2_0, r_2_1, r_2_2, w_2, hP1_2, hD1_2⟩ := hB_2
    rw [ht_2] at hP1_2
    obtain ⟨hP_2, hD_2⟩ := va_join (wr := [(h0, .inr (7, oX4 (.ref h1) v_behindOpening))]) (w1 := [(h1, .inr (10, oX7 (.ref h2) r_2_0 r_2_1 v_row_there)), (h2, .inl (k0, nv_row_items, .inl r_2_2))]) hP hD [0, 1] [2] rfl rfl (by decide) (by decide) hk_2 hFc_2 hP1_2 hD1_2
    have hP_2 := vaPq hP_2 (wsq := [(h1, .inr (10, oX7 (.ref h2) r_2_0 r_2_1 v_row_there)), (h2, .inl (k0, nv_row_items, .inl r_2_2)), (h0, .inr (7, oX4 (.ref h1) v_behindOpening))]) [1, 2, 0] rfl
    have hD_2 := vaDq hD_2 (wsq := [(h1, .inr (10, oX7 (.ref h2) r_2_0 r_2_1 v_row_there)), (h2, .inl (k0, nv_row_items, .inl r_2_2)), (h0, .inr (7, oX4 (.ref h1) v_behindOpening))]) [1, 2, 0] (by decide) rfl
    clear hPc_2 hDc_2 hKc_2 hFc_2 hP1_2 hD1_2 hk_2 hz_2
    refine lv_aload_n hx hb dX4_writeEdge_35 rfl (lv_at hl 0 rfl) ?_
    refine va_get (D := (dC, dI)) (ci := 7) (v := .ref h1) (C := RX4) (T := TX4) (N := 2) hx hb ht inX4 hown hK hP_2 2 rfl rfl 0 (by decide) (ht _ tw_503) (fun _ h9 => h9) rfl dX4_writeEdge_36 ?_
    refine lv_iload_n hx hb dX4_writeEdge_39 rfl (lv_at hl 1 rfl) ?_
    refine lv_iconst (v := 2) hx hb dX4_writeEdge_40 (by decide) ?_
    have k_51 : ∀ (s0_51 : Int32) (v_row_count_51 : Int32) (v_row_over_51 : Bool) (v_row_items_51 : Nat → Int32), ∀ (H_b51 : Heap) (locs_b51 : List Loc) (ls_b51 : Array Slot), w_X4_writeEdge_51 nv_row_items Q s0_51 v_row_count_51 v_row_over_51 v_row_items_51 → va_P (dC, dI) vwCl [(h1, .inr (10, oX7 (.ref h2) v_row_count_51 v_row_over_51 v_row_there)), (h2, .inl (k0, nv_row_items, .inl v_row_items_51)), (h0, .inr (7, oX4 (.ref h1) v_behindOpening))] H_b51 → va_D A [(h1, .inr (10, oX7 (.ref h2) v_row_count_51 v_row_over_51 v_row_there)), (h2, .inl (k0, nv_row_items, .inl v_row_items_51)), (h0, .inr (7, oX4 (.ref h1) v_behindOpening))] → va_S A s.heap H_b51 locs_b51 → lv_has ls_b51 2 [] → W p l e ({ frames := 1, cells := 0, slots := 0, locals := 21 } : Room) s m ([.ref h0, .int p1]).toArray below meth c H_b51 locs_b51 0 0 QQ (F0 m 51 ls_b51 [.int s0_51, .ref h1]) := by
      intro s0_51 v_row_count_51 v_row_over_51 v_row_items_51 H_b51 locs_b51 ls_b51 w_b51 hP_b51 hD_b51 hS_b51 hl_b51
      unfold w_X4_writeEdge_51 at w_b51
      have hPc_3 := vaPq hP_b51 (wsq := [(h1, .inr (10, oX7 (.ref h2) v_row_count_51 v_row_over_51 v_row_there)), (h2, .inl (k0, nv_row_items, .inl v_row_items_51))]) [0, 1] rfl
      have hDc_3 := vaDq hD_b51 (wsq := [(h1, .inr (10, oX7 (.ref h2) v_row_count_51 v_row_over_51 v_row_there)), (h2, .inl (k0, nv_row_items, .inl v_row_items_51))]) [0, 1] (by decide) rfl
      have hKc_3 := vaKq hK (tysq := [(k0, .int)]) [0] rfl
      have hFc_3 := va_free (wc := [(h1, .inr (10, oX7 (.ref h2) v_row_count_51 v_row_over_51 v_row_there)), (h2, .inl (k0, nv_row_items, .inl v_row_items_51))]) hD_b51 hS_b51 hA [0, 1] rfl
      refine va_callv (va_runV (As := [.int s0_51]) (rest := []) ⟨hx, hb, hml, hown, ht⟩ (mt_X7_add l dC dI h1 h2 k0 s0_51 v_row_count_51 v_row_over_51 v_row_there v_row_items_51 nv_row_items _ w_b51 H_b51.size) (cwV 1 ht (goodV tw_1209 tw_866 tw_867 tw_237 gw_X7_add) rfl rfl rfl (by decide +kernel) ⟨Nat.le_of_ble_eq_true rfl, Nat.le_of_ble_eq_true rfl⟩) ⟨fun a U g mk q => by obtain ⟨q0, q1, qP, qK, qD⟩ := q; exact ⟨q0, q1, qP, va_K.moved (u := U) (U := U.calling g mk a) (Vm.Alike.refl U.vm) qK, qD⟩, va_recv hKc_3 hPc_3 (ci := 10) (q0 := 0) rfl rfl, fun U hU hW => ⟨rfl, by rw [hU], by rw [hU]; exact hPc_3, va_K.moved hW.alike hKc_3, hDc_3.weaken (fun _ _ _ _ => trivial)⟩⟩ rfl rfl hl_b51.1 rfl (lv_room (Nat.le_of_ble_eq_true rfl)) dX4_writeEdge_51 ⟨Nat.le_of_ble_eq_true rfl, Nat.le_of_ble_eq_true rfl⟩) hS_b51 (fun q _ h => hFc_3 q h) hFc_3 (fun u_3 t_3 H_3 locs_3 ht_3 hvm_3 hw_3 hB_3 hz_3 hk_3 hS_3 => ?_)
      subst hw_3
      obtain ⟨r_3_0, r_3_1, r_3_2, w_3, hP1_3, hD1_3⟩ := hB_3
      rw [ht_3] at hP1_3
      obtain ⟨hP_3, hD_3⟩ := va_join (wr := [(h0, .inr (7, oX4 (.ref h1) v_behindOpening))]) (w1 := [(h1, .inr (10, oX7 (.ref h2) r_3_0 r_3_1 v_row_there)), (h2, .inl (k0, nv_row_items, .inl r_3_2))]) hP_b51 hD_b51 [0, 1] [2] rfl rfl (by decide) (by decide) hk_3 hFc_3 hP1_3 hD1_3
      have hP_3 := vaPq hP_3 (wsq := [(h1, .inr (10, oX7 (.ref h2) r_3_0 r_3_1 v_row_there)), (h2, .inl (k0, nv_row_items, .inl r_3_2)), (h0, .inr (7, oX4 (.ref h1) v_behindOpening))]) [1, 2, 0] rfl
      have hD_3 := vaDq hD_3 (wsq := [(h1, .inr (10, oX7 (.ref h2) r_3_0 r_3_1 v_row_there)), (h2, .inl (k0, nv_row_items, .inl r_3_2)), (h0, .inr (7, oX4 (.ref h1) v_behindOpening))]) [1, 2, 0] (by decide) rfl
      clear hPc_3 hDc_3 hKc_3 hFc_3 hP1_3 hD1_3 hk_3 hz_3
      exact k_54 r_3_0 r_3_1 r_3_2 _ _ _ w_3 hP_3 hD_3 hS_3 (lv_sub hl_b51 [] rfl)
    refine lv_icmp_ne (tgt := 49) hx hb dX4_writeEdge_41 (by decide) (fun c_4 => ?_) (fun c_4 => ?_)
    · refine lv_bipush (v := 66) hx hb dX4_writeEdge_49 (by decide) ?_
      exact k_51 66 r_2_0 r_2_1 r_2_2 _ _ _ (w_2.1 c_4) hP_2 hD_2 hS_2 (lv_sub hl [] rfl)
    · refine lv_bipush (v := 98) hx hb dX4_writeEdge_44 (by decide) ?_
      refine lv_goto (tgt := 51) hx hb dX4_writeEdge_46 (by decide) ?_
      exact k_51 98 r_2_0 r_2_1 r_2_2 _ _ _ (w_2.2 c_4) hP_2 hD_2 hS_2 (lv_sub hl [] rfl)
  · refine lv_aload_n hx hb dX4_writeEdge_5 rfl (lv_at hl 0 rfl) ?_
    refine va_get (D := (dC, dI)) (ci := 7) (v := .ref h1) (C := RX4) (T := TX4) (N := 2) hx hb ht inX4 hown hK hP 2 rfl rfl 0 (by decide) (ht _ tw_503) (fun _ h9 => h9) rfl dX4_writeEdge_6 ?_
    refine lv_iload_n hx hb dX4_writeEdge_9 rfl (lv_at hl 1 rfl) ?_
    have k_20 : ∀ (s0_20 : Int32) (v_row_count_20 : Int32) (v_row_over_20 : Bool) (v_row_items_20 : Nat → Int32), ∀ (H_b20 : Heap) (locs_b20 : List Loc) (ls_b20 : Array Slot), w_X4_writeEdge_20 nv_row_items Q s0_20 v_row_count_20 v_row_over_20 v_row_items_20 → va_P (dC, dI) vwCl [(h1, .inr (10, oX7 (.ref h2) v_row_count_20 v_row_over_20 v_row_there)), (h2, .inl (k0, nv_row_items, .inl v_row_items_20)), (h0, .inr (7, oX4 (.ref h1) v_behindOpening))] H_b20 → va_D A [(h1, .inr (10, oX7 (.ref h2) v_row_count_20 v_row_over_20 v_row_there)), (h2, .inl (k0, nv_row_items, .inl v_row_items_20)), (h0, .inr (7, oX4 (.ref h1) v_behindOpening))] → va_S A s.heap H_b20 locs_b20 → lv_has ls_b20 2 [] → W p l e ({ frames := 1, cells := 0, slots := 0, locals := 21 } : Room) s m ([.ref h0, .int p1]).toArray below meth c H_b20 locs_b20 0 0 QQ (F0 m 20 ls_b20 [.int s0_20, .ref h1]) := by
      intro s0_20 v_row_count_20 v_row_over_20 v_row_items_20 H_b20 locs_b20 ls_b20 w_b20 hP_b20 hD_b20 hS_b20 hl_b20
      unfold w_X4_writeEdge_20 at w_b20
      have hPc_5 := vaPq hP_b20 (wsq := [(h1, .inr (10, oX7 (.ref h2) v_row_count_20 v_row_over_20 v_row_there)), (h2, .inl (k0, nv_row_items, .inl v_row_items_20))]) [0, 1] rfl
      have hDc_5 := vaDq hD_b20 (wsq := [(h1, .inr (10, oX7 (.ref h2) v_row_count_20 v_row_over_20 v_row_there)), (h2, .inl (k0, nv_row_items, .inl v_row_items_20))]) [0, 1] (by decide) rfl
      have hKc_5 := vaKq hK (tysq := [(k0, .int)]) [0] rfl
      have hFc_5 := va_free (wc := [(h1, .inr (10, oX7 (.ref h2) v_row_count_20 v_row_over_20 v_row_there)), (h2, .inl (k0, nv_row_items, .inl v_row_items_20))]) hD_b20 hS_b20 hA [0, 1] rfl
      refine va_callv (va_runV (As := [.int s0_20]) (rest := []) ⟨hx, hb, hml, hown, ht⟩ (mt_X7_add l dC dI h1 h2 k0 s0_20 v_row_count_20 v_row_over_20 v_row_there v_row_items_20 nv_row_items _ w_b20 H_b20.size) (cwV 1 ht (goodV tw_1209 tw_866 tw_867 tw_237 gw_X7_add) rfl rfl rfl (by decide +kernel) ⟨Nat.le_of_ble_eq_true rfl, Nat.le_of_ble_eq_true rfl⟩) ⟨fun a U g mk q => by obtain ⟨q0, q1, qP, qK, qD⟩ := q; exact ⟨q0, q1, qP, va_K.moved (u := U) (U := U.calling g mk a) (Vm.Alike.refl U.vm) qK, qD⟩, va_recv hKc_5 hPc_5 (ci := 10) (q0 := 0) rfl rfl, fun U hU hW => ⟨rfl, by rw [hU], by rw [hU]; exact hPc_5, va_K.moved hW.alike hKc_5, hDc_5.weaken (fun _ _ _ _ => trivial)⟩⟩ rfl rfl hl_b20.1 rfl (lv_room (Nat.le_of_ble_eq_true rfl)) dX4_writeEdge_20 ⟨Nat.le_of_ble_eq_true rfl, Nat.le_of_ble_eq_true rfl⟩) hS_b20 (fun q _ h => hFc_5 q h) hFc_5 (fun u_5 t_5 H_5 locs_5 ht_5 hvm_5 hw_5 hB_5 hz_5 hk_5 hS_5 => ?_)
      subst hw_5
      obtain ⟨r_5_0, r_5_1, r_5_2, w_5, hP1_5, hD1_5⟩ := hB_5
      rw [ht_5] at hP1_5
      obtain ⟨hP_5, hD_5⟩ := va_join (wr := [(h0, .inr (7, oX4 (.ref h1) v_behindOpening))]) (w1 := [(h1, .inr (10, oX7 (.ref h2) r_5_0 r_5_1 v_row_there)), (h2, .inl (k0, nv_row_items, .inl r_5_2))]) hP_b20 hD_b20 [0, 1] [2] rfl rfl (by decide) (by decide) hk_5 hFc_5 hP1_5 hD1_5
      have hP_5 := vaPq hP_5 (wsq := [(h1, .inr (10, oX7 (.ref h2) r_5_0 r_5_1 v_row_there)), (h2, .inl (k0, nv_row_items, .inl r_5_2)), (h0, .inr (7, oX4 (.ref h1) v_behindOpening))]) [1, 2, 0] rfl
      have hD_5 := vaDq hD_5 (wsq := [(h1, .inr (10, oX7 (.ref h2) r_5_0 r_5_1 v_row_there)), (h2, .inl (k0, nv_row_items, .inl r_5_2)), (h0, .inr (7, oX4 (.ref h1) v_behindOpening))]) [1, 2, 0] (by decide) rfl
      clear hPc_5 hDc_5 hKc_5 hFc_5 hP1_5 hD1_5 hk_5 hz_5
      refine lv_goto (tgt := 54) hx hb dX4_writeEdge_23 (by decide) ?_
      exact k_54 r_5_0 r_5_1 r_5_2 _ _ _ w_5 hP_5 hD_5 hS_5 (lv_sub hl_b20 [] rfl)
    refine lv_if_ne (tgt := 18) hx hb dX4_writeEdge_10 (by decide) (fun c_6 => ?_) (fun c_6 => ?_)
    · refine lv_bipush (v := 36) hx hb dX4_writeEdge_18 (by decide) ?_
      exact k_20 36 v_row_count v_row_over v_row_items _ _ _ ((w.2 c_1).1 c_6) hP hD hS (lv_sub hl [] rfl)
    · refine lv_bipush (v := 94) hx hb dX4_writeEdge_13 (by decide) ?_
      refine lv_goto (tgt := 20) hx hb dX4_writeEdge_15 (by decide) ?_
      exact k_20 94 v_row_count v_row_over v_row_items _ _ _ ((w.2 c_1).2 c_6) hP hD hS (lv_sub hl [] rfl)
def w_X11_isTapeSign_17 (Q : Int32 → Prop) (s0_17 : Int32) : Prop :=
  (s0_17 = 0 ∨ s0_17 = 1) ∧ Q s0_17
def w_X11_isTapeSign_16 (Q : Int32 → Prop) : Prop :=
  w_X11_isTapeSign_17 Q 0
def w_X11_isTapeSign (p0 : Int32) (Q : Int32 → Prop) : Prop :=
  ((p0 < 32) → w_X11_isTapeSign_16 Q) ∧ ((¬ p0 < 32) → ((126 < p0) → w_X11_isTapeSign_16 Q) ∧ ((¬ 126 < p0) → w_X11_isTapeSign_17 Q 1))
set_option maxHeartbeats 4000000 in
set_option maxRecDepth 100000 in
theorem mt_X11_isTapeSign (l : Launch) (dC : Nat → ClassId) (dI : Nat → Nat → Nat) (p0 : Int32) (Q : Int32 → Prop) (w : w_X11_isTapeSign p0 Q) (sz : Nat) : Met l yX11_isTapeSign (WS yX11_isTapeSign cX11_isTapeSign 1 (some (.boolean))) ({ frames := 0, cells := 0, slots := 0, locals := 0 } : Room) (va_Pc [.int p0] (fun U => U.heap.size = sz ∧ va_P (dC, dI) vwCl [] U.heap ∧ va_K (dC, dI) vwCl [] U ∧ va_D (fun _ => True) [])) (va_Qi (fun (r u : Int32) => r = u) (fun (u : Int32) (t : State) => (Q u) ∧ va_P (dC, dI) vwCl [] t.heap ∧ va_D (va_A [] sz) []) (va_A [] sz)) 0 0 (va_A [] sz) := by
  refine Met.ofW (cc := cX11_isTapeSign) (maxL := 1) (ret := (some (.boolean))) (by decide) rfl ?_
  intro p e s m args below meth c s₁ B hml hv
  obtain ⟨rfl, hsz, hP, hK, hD0⟩ := hv
  have hx := B.exec
  have hb := B.bytes
  have hr := B.returns
  have hts := atoms_spec (ws := WS yX11_isTapeSign cX11_isTapeSign 1 (some (.boolean))) B.pre
  have ht : ∀ w ∈ TW, w.before _ s = true := fun w h => hts w (List.mem_cons_of_mem _ h)
  have hown : s.vm.findClass "PatternWorkshop" = some m.cls := findClass_of_methodNamed B.named
  have hlocks := B.notSynchronized
  subst hsz
  have hD := hD0.self (sz := s.heap.size)
  generalize hAe : va_A [] s.heap.size = A at hD ⊢
  have hA : ∀ q : Nat, s.heap.size ≤ q → A q := fun q h => by rw [← hAe]; exact Or.inr h
  have hS : va_S A s.heap s.heap [] := va_S.rf
  have hP : va_P (dC, dI) vwCl [] s.heap := hP
  have hl := lv_entry ([.int p0]) (n := 1) (Nat.le_of_ble_eq_true rfl)
  rw [lg_entry_eq]
  generalize (lg_sl ([.int p0]) ++ List.replicate (1 - (lg_sl ([.int p0])).length) Slot.unset).toArray = ls at hl ⊢
  have hl : lv_has ls 1 [(0, .int p0)] := hl
  clear hD0
  obtain ⟨QQ, hQQ⟩ : ∃ QQ, QQ = MQ below (va_Qi (fun (r u : Int32) => r = u) (fun (u : Int32) (t : State) => (Q u) ∧ va_P (dC, dI) vwCl [] t.heap ∧ va_D A []) A) ([.int p0]).toArray s 0 0 A := ⟨_, rfl⟩
  show W p l e ({ frames := 0, cells := 0, slots := 0, locals := 0 } : Room) s m ([.int p0]).toArray below meth c s.heap [] 0 0 (MQ below (va_Qi (fun (r u : Int32) => r = u) (fun (u : Int32) (t : State) => (Q u) ∧ va_P (dC, dI) vwCl [] t.heap ∧ va_D A []) A) ([.int p0]).toArray s 0 0 A) (F0 m 0 ls [])
  rw [← hQQ]
  unfold w_X11_isTapeSign at w
  refine lv_iload_n hx hb dX11_isTapeSign_0 rfl (lv_at hl 0 rfl) ?_
  refine lv_bipush (v := 32) hx hb dX11_isTapeSign_1 (by decide) ?_
  have k_17 : ∀ (s0_17 : Int32), ∀ (H_b17 : Heap) (locs_b17 : List Loc) (ls_b17 : Array Slot), w_X11_isTapeSign_17 Q s0_17 → va_P (dC, dI) vwCl [] H_b17 → va_D A [] → va_S A s.heap H_b17 locs_b17 → lv_has ls_b17 1 [] → W p l e ({ frames := 0, cells := 0, slots := 0, locals := 0 } : Room) s m ([.int p0]).toArray below meth c H_b17 locs_b17 0 0 QQ (F0 m 17 ls_b17 [.int s0_17]) := by
    intro s0_17 H_b17 locs_b17 ls_b17 w_b17 hP_b17 hD_b17 hS_b17 hl_b17
    unfold w_X11_isTapeSign_17 at w_b17
    rw [hQQ]
    exact W.zret (v := s0_17) hx hb hr (or_nar w_b17.1) (fun t9 ht9 hW9 => ⟨⟨s0_17, s0_17, rfl, rfl, ⟨w_b17.2, by rw [ht9]; exact hP_b17, hD_b17⟩⟩, hS_b17.F ht9⟩) hS_b17.2.2 dX11_isTapeSign_17
  have k_16 : ∀ (H_b16 : Heap) (locs_b16 : List Loc) (ls_b16 : Array Slot), w_X11_isTapeSign_16 Q → va_P (dC, dI) vwCl [] H_b16 → va_D A [] → va_S A s.heap H_b16 locs_b16 → lv_has ls_b16 1 [] → W p l e ({ frames := 0, cells := 0, slots := 0, locals := 0 } : Room) s m ([.int p0]).toArray below meth c H_b16 locs_b16 0 0 QQ (F0 m 16 ls_b16 []) := by
    intro  H_b16 locs_b16 ls_b16 w_b16 hP_b16 hD_b16 hS_b16 hl_b16
    unfold w_X11_isTapeSign_16 at w_b16
    refine lv_iconst (v := 0) hx hb dX11_isTapeSign_16 (by decide) ?_
    exact k_17 0 _ _ _ w_b16 hP_b16 hD_b16 hS_b16 (lv_sub hl_b16 [] rfl)
  refine lv_icmp_lt (tgt := 16) hx hb dX11_isTapeSign_3 (by decide) (fun c_1 => ?_) (fun c_1 => ?_)
  · exact k_16  _ _ _ (w.1 c_1) hP hD hS (lv_sub hl [] rfl)
  · refine lv_iload_n hx hb dX11_isTapeSign_6 rfl (lv_at hl 0 rfl) ?_
    refine lv_bipush (v := 126) hx hb dX11_isTapeSign_7 (by decide) ?_
    refine lv_icmp_gt (tgt := 16) hx hb dX11_isTapeSign_9 (by decide) (fun c_2 => ?_) (fun c_2 => ?_)
    · exact k_16  _ _ _ ((w.2 c_1).1 c_2) hP hD hS (lv_sub hl [] rfl)
    · refine lv_iconst (v := 1) hx hb dX11_isTapeSign_12 (by decide) ?_
      refine lv_goto (tgt := 17) hx hb dX11_isTapeSign_13 (by decide) ?_
      exact k_17 1 _ _ _ ((w.2 c_1).2 c_2) hP hD hS (lv_sub hl [] rfl)
def w_X4_writeCode_56 (nv_row_items : Nat) (Q : Int32 → Bool → (Nat → Int32) → Prop) (K21 : Int32 → Int32 → Bool → (Nat → Int32) → Prop) (s0_56 : Int32) (l2_56 : Int32) (v_row_count_56 : Int32) (v_row_over_56 : Bool) (v_row_items_56 : Nat → Int32) : Prop :=
  w_X7_add s0_56 v_row_count_56 v_row_over_56 v_row_items_56 nv_row_items (fun r_8_0 r_8_1 r_8_2 => ∀ x_9 : Int32, x_9 = l2_56 + (-4) → K21 x_9 r_8_0 r_8_1 r_8_2)
def w_X4_writeCode_21B (p1 : Int32) (nv_row_items : Nat) (Q : Int32 → Bool → (Nat → Int32) → Prop) (K21 : Int32 → Int32 → Bool → (Nat → Int32) → Prop) (l2_21 : Int32) (v_row_count_21 : Int32) (v_row_over_21 : Bool) (v_row_items_21 : Nat → Int32) : Prop :=
  ((l2_21 < 0) → Q  v_row_count_21 v_row_over_21 v_row_items_21) ∧ ((¬ l2_21 < 0) → ∀ x_5 : Int32, x_5 = p1 >>> (l2_21 &&& 31) → ∀ x_6 : Int32, x_6 = x_5 &&& (15 : Int32) → ((10 ≤ x_6) → ∀ x_11 : Int32, x_11 = (97 : Int32) + x_6 → ∀ x_12 : Int32, x_12 = x_11 - (10 : Int32) → w_X4_writeCode_56 nv_row_items Q K21 x_12 l2_21 v_row_count_21 v_row_over_21 v_row_items_21) ∧ ((¬ 10 ≤ x_6) → ∀ x_14 : Int32, x_14 = (48 : Int32) + x_6 → w_X4_writeCode_56 nv_row_items Q K21 x_14 l2_21 v_row_count_21 v_row_over_21 v_row_items_21))
def w_X4_writeCode_21 (p1 : Int32) (nv_row_items : Nat) (Q : Int32 → Bool → (Nat → Int32) → Prop) : Nat → Int32 → Int32 → Bool → (Nat → Int32) → Prop
  | 0, _, _, _, _ => False
  | n9 + 1, l2_21, v_row_count_21, v_row_over_21, v_row_items_21 => w_X4_writeCode_21B p1 nv_row_items Q (w_X4_writeCode_21 p1 nv_row_items Q n9) l2_21 v_row_count_21 v_row_over_21 v_row_items_21
def w_X4_writeCode (p1 : Int32) (v_row_count : Int32) (v_row_over : Bool) (v_row_items : Nat → Int32) (nv_row_items : Nat) (Q : Int32 → Bool → (Nat → Int32) → Prop) : Prop :=
  w_X7_add 92 v_row_count v_row_over v_row_items nv_row_items (fun r_1_0 r_1_1 r_1_2 => w_X7_add 120 r_1_0 r_1_1 r_1_2 nv_row_items (fun r_2_0 r_2_1 r_2_2 => ∃ k9 : Nat, w_X4_writeCode_21 p1 nv_row_items Q k9 12 r_2_0 r_2_1 r_2_2))
set_option maxHeartbeats 4000000 in
set_option maxRecDepth 100000 in
theorem mt_X4_writeCode (l : Launch) (dC : Nat → ClassId) (dI : Nat → Nat → Nat) (h0 h1 h2 : Nat) (k0 : ClassId) (p1 : Int32) (v_row_count : Int32) (v_row_over : Bool) (v_row_there : Bool) (v_row_items : Nat → Int32) (nv_row_items : Nat) (v_behindOpening : Int32) (Q : Int32 → Bool → (Nat → Int32) → Prop) (w : w_X4_writeCode p1 v_row_count v_row_over v_row_items nv_row_items Q) (sz : Nat) : Met l yX4_writeCode (WS yX4_writeCode cX4_writeCode 4 none) ({ frames := 1, cells := 0, slots := 0, locals := 21 } : Room) (va_Pc [.ref h0, .int p1] (fun U => U.heap.size = sz ∧ va_P (dC, dI) vwCl [(h1, .inr (10, oX7 (.ref h2) v_row_count v_row_over v_row_there)), (h2, .inl (k0, nv_row_items, .inl v_row_items)), (h0, .inr (7, oX4 (.ref h1) v_behindOpening))] U.heap ∧ va_K (dC, dI) vwCl [(k0, .int)] U ∧ va_D (fun _ => True) [(h1, .inr (10, oX7 (.ref h2) v_row_count v_row_over v_row_there)), (h2, .inl (k0, nv_row_items, .inl v_row_items)), (h0, .inr (7, oX4 (.ref h1) v_behindOpening))])) (va_Qv (fun (u : Nat) => u = 0) (fun (_ : Nat) (t : State) => ∃ (ov_row_count : Int32), ∃ (ov_row_over : Bool), ∃ (ov_row_items : Nat → Int32), (Q ov_row_count ov_row_over ov_row_items) ∧ va_P (dC, dI) vwCl [(h1, .inr (10, oX7 (.ref h2) ov_row_count ov_row_over v_row_there)), (h2, .inl (k0, nv_row_items, .inl ov_row_items)), (h0, .inr (7, oX4 (.ref h1) v_behindOpening))] t.heap ∧ va_D (va_A [(h1, .inr (10, oX7 (.ref h2) v_row_count v_row_over v_row_there)), (h2, .inl (k0, nv_row_items, .inl v_row_items)), (h0, .inr (7, oX4 (.ref h1) v_behindOpening))] sz) [(h1, .inr (10, oX7 (.ref h2) ov_row_count ov_row_over v_row_there)), (h2, .inl (k0, nv_row_items, .inl ov_row_items)), (h0, .inr (7, oX4 (.ref h1) v_behindOpening))]) (va_A [(h1, .inr (10, oX7 (.ref h2) v_row_count v_row_over v_row_there)), (h2, .inl (k0, nv_row_items, .inl v_row_items)), (h0, .inr (7, oX4 (.ref h1) v_behindOpening))] sz)) 0 0 (va_A [(h1, .inr (10, oX7 (.ref h2) v_row_count v_row_over v_row_there)), (h2, .inl (k0, nv_row_items, .inl v_row_items)), (h0, .inr (7, oX4 (.ref h1) v_behindOpening))] sz) := by
  refine Met.ofW (cc := cX4_writeCode) (maxL := 4) (ret := none) (by decide) rfl ?_
  intro p e s m args below meth c s₁ B hml hv
  obtain ⟨rfl, hsz, hP, hK, hD0⟩ := hv
  have hx := B.exec
  have hb := B.bytes
  have hr := B.returns
  have hts := atoms_spec (ws := WS yX4_writeCode cX4_writeCode 4 none) B.pre
  have ht : ∀ w ∈ TW, w.before _ s = true := fun w h => hts w (List.mem_cons_of_mem _ h)
  have hown : s.vm.findClass "PatternWorkshop$Printer" = some m.cls := findClass_of_methodNamed B.named
  have hlocks := B.notSynchronized
  subst hsz
  have hD := hD0.self (sz := s.heap.size)
  generalize hAe : va_A [(h1, .inr (10, oX7 (.ref h2) v_row_count v_row_over v_row_there)), (h2, .inl (k0, nv_row_items, .inl v_row_items)), (h0, .inr (7, oX4 (.ref h1) v_behindOpening))] s.heap.size = A at hD ⊢
  have hA : ∀ q : Nat, s.heap.size ≤ q → A q := fun q h => by rw [← hAe]; exact Or.inr h
  have hS : va_S A s.heap s.heap [] := va_S.rf
  have hP : va_P (dC, dI) vwCl [(h1, .inr (10, oX7 (.ref h2) v_row_count v_row_over v_row_there)), (h2, .inl (k0, nv_row_items, .inl v_row_items)), (h0, .inr (7, oX4 (.ref h1) v_behindOpening))] s.heap := hP
  have hl := lv_entry ([.ref h0, .int p1]) (n := 4) (Nat.le_of_ble_eq_true rfl)
  rw [lg_entry_eq]
  generalize (lg_sl ([.ref h0, .int p1]) ++ List.replicate (4 - (lg_sl ([.ref h0, .int p1])).length) Slot.unset).toArray = ls at hl ⊢
  have hl : lv_has ls 4 [(0, .ref h0), (1, .int p1)] := hl
  clear hD0
  obtain ⟨QQ, hQQ⟩ : ∃ QQ, QQ = MQ below (va_Qv (fun (u : Nat) => u = 0) (fun (_ : Nat) (t : State) => ∃ (ov_row_count : Int32), ∃ (ov_row_over : Bool), ∃ (ov_row_items : Nat → Int32), (Q ov_row_count ov_row_over ov_row_items) ∧ va_P (dC, dI) vwCl [(h1, .inr (10, oX7 (.ref h2) ov_row_count ov_row_over v_row_there)), (h2, .inl (k0, nv_row_items, .inl ov_row_items)), (h0, .inr (7, oX4 (.ref h1) v_behindOpening))] t.heap ∧ va_D A [(h1, .inr (10, oX7 (.ref h2) ov_row_count ov_row_over v_row_there)), (h2, .inl (k0, nv_row_items, .inl ov_row_items)), (h0, .inr (7, oX4 (.ref h1) v_behindOpening))]) A) ([.ref h0, .int p1]).toArray s 0 0 A := ⟨_, rfl⟩
  show W p l e ({ frames := 1, cells := 0, slots := 0, locals := 21 } : Room) s m ([.ref h0, .int p1]).toArray below meth c s.heap [] 0 0 (MQ below (va_Qv (fun (u : Nat) => u = 0) (fun (_ : Nat) (t : State) => ∃ (ov_row_count : Int32), ∃ (ov_row_over : Bool), ∃ (ov_row_items : Nat → Int32), (Q ov_row_count ov_row_over ov_row_items) ∧ va_P (dC, dI) vwCl [(h1, .inr (10, oX7 (.ref h2) ov_row_count ov_row_over v_row_there)), (h2, .inl (k0, nv_row_items, .inl ov_row_items)), (h0, .inr (7, oX4 (.ref h1) v_behindOpening))] t.heap ∧ va_D A [(h1, .inr (10, oX7 (.ref h2) ov_row_count ov_row_over v_row_there)), (h2, .inl (k0, nv_row_items, .inl ov_row_items)), (h0, .inr (7, oX4 (.ref h1) v_behindOpening))]) A) ([.ref h0, .int p1]).toArray s 0 0 A) (F0 m 0 ls [])
  rw [← hQQ]
  unfold w_X4_writeCode at w
  refine lv_aload_n hx hb dX4_writeCode_0 rfl (lv_at hl 0 rfl) ?_
  refine va_get (D := (dC, dI)) (ci := 7) (v := .ref h1) (C := RX4) (T := TX4) (N := 2) hx hb ht inX4 hown hK hP 2 rfl rfl 0 (by decide) (ht _ tw_503) (fun _ h9 => h9) rfl dX4_writeCode_1 ?_
  refine lv_bipush (v := 92) hx hb dX4_writeCode_4 (by decide) ?_
  have hPc_1 := vaPq hP (wsq := [(h1, .inr (10, oX7 (.ref h2) v_row_count v_row_over v_row_there)), (h2, .inl (k0, nv_row_items, .inl v_row_items))]) [0, 1] rfl
  have hDc_1 := vaDq hD (wsq := [(h1, .inr (10, oX7 (.ref h2) v_row_count v_row_over v_row_there)), (h2, .inl (k0, nv_row_items, .inl v_row_items))]) [0, 1] (by decide) rfl
  have hKc_1 := vaKq hK (tysq := [(k0, .int)]) [0] rfl
  have hFc_1 := va_free (wc := [(h1, .inr (10, oX7 (.ref h2) v_row_count v_row_over v_row_there)), (h2, .inl (k0, nv_row_items, .inl v_row_items))]) hD hS hA [0, 1] rfl
  refine va_callv (va_runV (As := [.int 92]) (rest := []) ⟨hx, hb, hml, hown, ht⟩ (mt_X7_add l dC dI h1 h2 k0 92 v_row_count v_row_over v_row_there v_row_items nv_row_items _ w s.heap.size) (cwV 1 ht (goodV tw_1209 tw_866 tw_867 tw_237 gw_X7_add) rfl rfl rfl (by decide +kernel) ⟨Nat.le_of_ble_eq_true rfl, Nat.le_of_ble_eq_true rfl⟩) ⟨fun a U g mk q => by obtain ⟨q0, q1, qP, qK, qD⟩ := q; exact ⟨q0, q1, qP, va_K.moved (u := U) (U := U.calling g mk a) (Vm.Alike.refl U.vm) qK, qD⟩, va_recv hKc_1 hPc_1 (ci := 10) (q0 := 0) rfl rfl, fun U hU hW => ⟨rfl, by rw [hU], by rw [hU]; exact hPc_1, va_K.moved hW.alike hKc_1, hDc_1.weaken (fun _ _ _ _ => trivial)⟩⟩ rfl rfl hl.1 rfl (lv_room (Nat.le_of_ble_eq_true rfl)) dX4_writeCode_6 ⟨Nat.le_of_ble_eq_true rfl, Nat.le_of_ble_eq_true rfl⟩) hS (fun q _ h => hFc_1 q h) hFc_1 (fun u_1 t_1 H_1 locs_1 ht_1 hvm_1 hw_1 hB_1 hz_1 hk_1 hS_1 => ?_)
  subst hw_1
  obtain ⟨r_1_0, r_1_1, r_1_2, w_1, hP1_1, hD1_1⟩ := hB_1
  rw [ht_1] at hP1_1
  obtain ⟨hP_1, hD_1⟩ := va_join (wr := [(h0, .inr (7, oX4 (.ref h1) v_behindOpening))]) (w1 := [(h1, .inr (10, oX7 (.ref h2) r_1_0 r_1_1 v_row_there)), (h2, .inl (k0, nv_row_items, .inl r_1_2))]) hP hD [0, 1] [2] rfl rfl (by decide) (by decide) hk_1 hFc_1 hP1_1 hD1_1
  have hP_1 := vaPq hP_1 (wsq := [(h1, .inr (10, oX7 (.ref h2) r_1_0 r_1_1 v_row_there)), (h2, .inl (k0, nv_row_items, .inl r_1_2)), (h0, .inr (7, oX4 (.ref h1) v_behindOpening))]) [1, 2, 0] rfl
  have hD_1 := vaDq hD_1 (wsq := [(h1, .inr (10, oX7 (.ref h2) r_1_0 r_1_1 v_row_there)), (h2, .inl (k0, nv_row_items, .inl r_1_2)), (h0, .inr (7, oX4 (.ref h1) v_behindOpening))]) [1, 2, 0] (by decide) rfl
  clear hPc_1 hDc_1 hKc_1 hFc_1 hP1_1 hD1_1 hk_1 hz_1
  refine lv_aload_n hx hb dX4_writeCode_9 rfl (lv_at hl 0 rfl) ?_
  refine va_get (D := (dC, dI)) (ci := 7) (v := .ref h1) (C := RX4) (T := TX4) (N := 2) hx hb ht inX4 hown hK hP_1 2 rfl rfl 0 (by decide) (ht _ tw_503) (fun _ h9 => h9) rfl dX4_writeCode_10 ?_
  refine lv_bipush (v := 120) hx hb dX4_writeCode_13 (by decide) ?_
  have hPc_2 := vaPq hP_1 (wsq := [(h1, .inr (10, oX7 (.ref h2) r_1_0 r_1_1 v_row_there)), (h2, .inl (k0, nv_row_items, .inl r_1_2))]) [0, 1] rfl
  have hDc_2 := vaDq hD_1 (wsq := [(h1, .inr (10, oX7 (.ref h2) r_1_0 r_1_1 v_row_there)), (h2, .inl (k0, nv_row_items, .inl r_1_2))]) [0, 1] (by decide) rfl
  have hKc_2 := vaKq hK (tysq := [(k0, .int)]) [0] rfl
  have hFc_2 := va_free (wc := [(h1, .inr (10, oX7 (.ref h2) r_1_0 r_1_1 v_row_there)), (h2, .inl (k0, nv_row_items, .inl r_1_2))]) hD_1 hS_1 hA [0, 1] rfl
  refine va_callv (va_runV (As := [.int 120]) (rest := []) ⟨hx, hb, hml, hown, ht⟩ (mt_X7_add l dC dI h1 h2 k0 120 r_1_0 r_1_1 v_row_there r_1_2 nv_row_items _ w_1 H_1.size) (cwV 1 ht (goodV tw_1209 tw_866 tw_867 tw_237 gw_X7_add) rfl rfl rfl (by decide +kernel) ⟨Nat.le_of_ble_eq_true rfl, Nat.le_of_ble_eq_true rfl⟩) ⟨fun a U g mk q => by obtain ⟨q0, q1, qP, qK, qD⟩ := q; exact ⟨q0, q1, qP, va_K.moved (u := U) (U := U.calling g mk a) (Vm.Alike.refl U.vm) qK, qD⟩, va_recv hKc_2 hPc_2 (ci := 10) (q0 := 0) rfl rfl, fun U hU hW => ⟨rfl, by rw [hU], by rw [hU]; exact hPc_2, va_K.moved hW.alike hKc_2, hDc_2.weaken (fun _ _ _ _ => trivial)⟩⟩ rfl rfl hl.1 rfl (lv_room (Nat.le_of_ble_eq_true rfl)) dX4_writeCode_15 ⟨Nat.le_of_ble_eq_true rfl, Nat.le_of_ble_eq_true rfl⟩) hS_1 (fun q _ h => hFc_2 q h) hFc_2 (fun u_2 t_2 H_2 locs_2 ht_2 hvm_2 hw_2 hB_2 hz_2 hk_2 hS_2 => ?_)
  subst hw_2
  obtain ⟨r_2_0, r_2_1, r_2_2, w_2, hP1_2, hD1_2⟩ := hB_2
  rw [ht_2] at hP1_2
  obtain ⟨hP_2, hD_2⟩ := va_join (wr := [(h0, .inr (7, oX4 (.ref h1) v_behindOpening))]) (w1 := [(h1, .inr (10, oX7 (.ref h2) r_2_0 r_2_1 v_row_there)), (h2, .inl (k0, nv_row_items, .inl r_2_2))]) hP_1 hD_1 [0, 1] [2] rfl rfl (by decide) (by decide) hk_2 hFc_2 hP1_2 hD1_2
  have hP_2 := vaPq hP_2 (wsq := [(h1, .inr (10, oX7 (.ref h2) r_2_0 r_2_1 v_row_there)), (h2, .inl (k0, nv_row_items, .inl r_2_2)), (h0, .inr (7, oX4 (.ref h1) v_behindOpening))]) [1, 2, 0] rfl
  have hD_2 := vaDq hD_2 (wsq := [(h1, .inr (10, oX7 (.ref h2) r_2_0 r_2_1 v_row_there)), (h2, .inl (k0, nv_row_items, .inl r_2_2)), (h0, .inr (7, oX4 (.ref h1) v_behindOpening))]) [1, 2, 0] (by decide) rfl
  clear hPc_2 hDc_2 hKc_2 hFc_2 hP1_2 hD1_2 hk_2 hz_2
  refine lv_bipush (v := 12) hx hb dX4_writeCode_18 (by decide) ?_
  refine lv_istore_n (lv' := [(2, .int 12), (0, .ref h0), (1, .int p1)]) hx hb dX4_writeCode_20 rfl hl (by decide) rfl (fun ls_3 hl_3 => ?_)
  clear hl
  have k_21 : ∀ n_21 : Nat, ∀ (l2_21 : Int32) (v_row_count_21 : Int32) (v_row_over_21 : Bool) (v_row_items_21 : Nat → Int32), ∀ (H_b21 : Heap) (locs_b21 : List Loc) (ls_b21 : Array Slot), w_X4_writeCode_21 p1 nv_row_items Q n_21 l2_21 v_row_count_21 v_row_over_21 v_row_items_21 → va_P (dC, dI) vwCl [(h1, .inr (10, oX7 (.ref h2) v_row_count_21 v_row_over_21 v_row_there)), (h2, .inl (k0, nv_row_items, .inl v_row_items_21)), (h0, .inr (7, oX4 (.ref h1) v_behindOpening))] H_b21 → va_D A [(h1, .inr (10, oX7 (.ref h2) v_row_count_21 v_row_over_21 v_row_there)), (h2, .inl (k0, nv_row_items, .inl v_row_items_21)), (h0, .inr (7, oX4 (.ref h1) v_behindOpening))] → va_S A s.heap H_b21 locs_b21 → lv_has ls_b21 4 [(0, .ref h0), (1, .int p1), (2, .int l2_21)] → W p l e ({ frames := 1, cells := 0, slots := 0, locals := 21 } : Room) s m ([.ref h0, .int p1]).toArray below meth c H_b21 locs_b21 0 0 QQ (F0 m 21 ls_b21 []) := by
    intro n_21
    induction n_21 with
    | zero =>
      intro l2_21 v_row_count_21 v_row_over_21 v_row_items_21 H_b21 locs_b21 ls_b21 w_b21 hP_b21 hD_b21 hS_b21 hl_b21
      exact False.elim (by unfold w_X4_writeCode_21 at w_b21; exact w_b21)
    | succ n_21 ih_21 =>
      intro l2_21 v_row_count_21 v_row_over_21 v_row_items_21 H_b21 locs_b21 ls_b21 w_b21 hP_b21 hD_b21 hS_b21 hl_b21
      unfold w_X4_writeCode_21 at w_b21
      unfold w_X4_writeCode_21B at w_b21
      refine lv_iload_n hx hb dX4_writeCode_21 rfl (lv_at hl_b21 2 rfl) ?_
      refine lv_if_lt (tgt := 65) hx hb dX4_writeCode_22 (by decide) (fun c_4 => ?_) (fun c_4 => ?_)
      · rw [hQQ]
        exact W.vret hx hb hr (fun t9 ht9 hW9 => ⟨⟨0, rfl, rfl, ⟨v_row_count_21, v_row_over_21, v_row_items_21, w_b21.1 c_4, by rw [ht9]; exact hP_b21, hD_b21⟩⟩, hS_b21.F ht9⟩) hS_b21.2.2 dX4_writeCode_65
      · refine lv_iload_n hx hb dX4_writeCode_25 rfl (lv_at hl_b21 1 rfl) ?_
        refine lv_iload_n hx hb dX4_writeCode_26 rfl (lv_at hl_b21 2 rfl) ?_
        refine lv_ishr hx hb dX4_writeCode_27 ?_
        refine lv_topi (fun x_5 ex_5 => ?_)
        have ex_5 : x_5 = p1 >>> (l2_21 &&& 31) := ex_5
        refine lv_bipush (v := 15) hx hb dX4_writeCode_28 (by decide) ?_
        refine lv_iand hx hb dX4_writeCode_30 ?_
        refine lv_topi (fun x_6 ex_6 => ?_)
        have ex_6 : x_6 = x_5 &&& (15 : Int32) := ex_6
        refine lv_istore_n (lv' := [(3, .int x_6), (0, .ref h0), (1, .int p1), (2, .int l2_21)]) hx hb dX4_writeCode_31 rfl hl_b21 (by decide) rfl (fun ls_7 hl_7 => ?_)
        clear hl_b21
        refine lv_aload_n hx hb dX4_writeCode_32 rfl (lv_at hl_7 1 rfl) ?_
        refine va_get (D := (dC, dI)) (ci := 7) (v := .ref h1) (C := RX4) (T := TX4) (N := 2) hx hb ht inX4 hown hK hP_b21 2 rfl rfl 0 (by decide) (ht _ tw_503) (fun _ h9 => h9) rfl dX4_writeCode_33 ?_
        refine lv_iload_n hx hb dX4_writeCode_36 rfl (lv_at hl_7 0 rfl) ?_
        refine lv_bipush (v := 10) hx hb dX4_writeCode_37 (by decide) ?_
        have k_56 : ∀ (s0_56 : Int32) (l2_56 : Int32) (v_row_count_56 : Int32) (v_row_over_56 : Bool) (v_row_items_56 : Nat → Int32), ∀ (H_b56 : Heap) (locs_b56 : List Loc) (ls_b56 : Array Slot), w_X4_writeCode_56 nv_row_items Q (w_X4_writeCode_21 p1 nv_row_items Q n_21) s0_56 l2_56 v_row_count_56 v_row_over_56 v_row_items_56 → va_P (dC, dI) vwCl [(h1, .inr (10, oX7 (.ref h2) v_row_count_56 v_row_over_56 v_row_there)), (h2, .inl (k0, nv_row_items, .inl v_row_items_56)), (h0, .inr (7, oX4 (.ref h1) v_behindOpening))] H_b56 → va_D A [(h1, .inr (10, oX7 (.ref h2) v_row_count_56 v_row_over_56 v_row_there)), (h2, .inl (k0, nv_row_items, .inl v_row_items_56)), (h0, .inr (7, oX4 (.ref h1) v_behindOpening))] → va_S A s.heap H_b56 locs_b56 → lv_has ls_b56 4 [(0, .ref h0), (1, .int p1), (2, .int l2_56)] → W p l e ({ frames := 1, cells := 0, slots := 0, locals := 21 } : Room) s m ([.ref h0, .int p1]).toArray below meth c H_b56 locs_b56 0 0 QQ (F0 m 56 ls_b56 [.int s0_56, .ref h1]) := by
          intro s0_56 l2_56 v_row_count_56 v_row_over_56 v_row_items_56 H_b56 locs_b56 ls_b56 w_b56 hP_b56 hD_b56 hS_b56 hl_b56
          unfold w_X4_writeCode_56 at w_b56
          have hPc_8 := vaPq hP_b56 (wsq := [(h1, .inr (10, oX7 (.ref h2) v_row_count_56 v_row_over_56 v_row_there)), (h2, .inl (k0, nv_row_items, .inl v_row_items_56))]) [0, 1] rfl
          have hDc_8 := vaDq hD_b56 (wsq := [(h1, .inr (10, oX7 (.ref h2) v_row_count_56 v_row_over_56 v_row_there)), (h2, .inl (k0, nv_row_items, .inl v_row_items_56))]) [0, 1] (by decide) rfl
          have hKc_8 := vaKq hK (tysq := [(k0, .int)]) [0] rfl
          have hFc_8 := va_free (wc := [(h1, .inr (10, oX7 (.ref h2) v_row_count_56 v_row_over_56 v_row_there)), (h2, .inl (k0, nv_row_items, .inl v_row_items_56))]) hD_b56 hS_b56 hA [0, 1] rfl
          refine va_callv (va_runV (As := [.int s0_56]) (rest := []) ⟨hx, hb, hml, hown, ht⟩ (mt_X7_add l dC dI h1 h2 k0 s0_56 v_row_count_56 v_row_over_56 v_row_there v_row_items_56 nv_row_items _ w_b56 H_b56.size) (cwV 1 ht (goodV tw_1209 tw_866 tw_867 tw_237 gw_X7_add) rfl rfl rfl (by decide +kernel) ⟨Nat.le_of_ble_eq_true rfl, Nat.le_of_ble_eq_true rfl⟩) ⟨fun a U g mk q => by obtain ⟨q0, q1, qP, qK, qD⟩ := q; exact ⟨q0, q1, qP, va_K.moved (u := U) (U := U.calling g mk a) (Vm.Alike.refl U.vm) qK, qD⟩, va_recv hKc_8 hPc_8 (ci := 10) (q0 := 0) rfl rfl, fun U hU hW => ⟨rfl, by rw [hU], by rw [hU]; exact hPc_8, va_K.moved hW.alike hKc_8, hDc_8.weaken (fun _ _ _ _ => trivial)⟩⟩ rfl rfl hl_b56.1 rfl (lv_room (Nat.le_of_ble_eq_true rfl)) dX4_writeCode_56 ⟨Nat.le_of_ble_eq_true rfl, Nat.le_of_ble_eq_true rfl⟩) hS_b56 (fun q _ h => hFc_8 q h) hFc_8 (fun u_8 t_8 H_8 locs_8 ht_8 hvm_8 hw_8 hB_8 hz_8 hk_8 hS_8 => ?_)
          subst hw_8
          obtain ⟨r_8_0, r_8_1, r_8_2, w_8, hP1_8, hD1_8⟩ := hB_8
          rw [ht_8] at hP1_8
          obtain ⟨hP_8, hD_8⟩ := va_join (wr := [(h0, .inr (7, oX4 (.ref h1) v_behindOpening))]) (w1 := [(h1, .inr (10, oX7 (.ref h2) r_8_0 r_8_1 v_row_there)), (h2, .inl (k0, nv_row_items, .inl r_8_2))]) hP_b56 hD_b56 [0, 1] [2] rfl rfl (by decide) (by decide) hk_8 hFc_8 hP1_8 hD1_8
          have hP_8 := vaPq hP_8 (wsq := [(h1, .inr (10, oX7 (.ref h2) r_8_0 r_8_1 v_row_there)), (h2, .inl (k0, nv_row_items, .inl r_8_2)), (h0, .inr (7, oX4 (.ref h1) v_behindOpening))]) [1, 2, 0] rfl
          have hD_8 := vaDq hD_8 (wsq := [(h1, .inr (10, oX7 (.ref h2) r_8_0 r_8_1 v_row_there)), (h2, .inl (k0, nv_row_items, .inl r_8_2)), (h0, .inr (7, oX4 (.ref h1) v_behindOpening))]) [1, 2, 0] (by decide) rfl
          clear hPc_8 hDc_8 hKc_8 hFc_8 hP1_8 hD1_8 hk_8 hz_8
          obtain ⟨x_9, ex_9⟩ : ∃ y : Int32, y = l2_56 + (-4) := ⟨_, rfl⟩
          refine lv_iinc (v := x_9) (lv' := [(2, .int x_9), (0, .ref h0), (1, .int p1)]) hx hb dX4_writeCode_59 hl_b56 (k := 2) rfl ex_9.symm (by decide) rfl (fun ls_9 hl_9 => ?_)
          refine lv_goto (tgt := 21) hx hb dX4_writeCode_62 (by decide) ?_
          exact ih_21 x_9 r_8_0 r_8_1 r_8_2 _ _ _ (w_8 x_9 ex_9) hP_8 hD_8 hS_8 (lv_sub hl_9 [1, 2, 0] rfl)
        refine lv_icmp_ge (tgt := 49) hx hb dX4_writeCode_39 (by decide) (fun c_10 => ?_) (fun c_10 => ?_)
        · refine lv_bipush (v := 97) hx hb dX4_writeCode_49 (by decide) ?_
          refine lv_iload_n hx hb dX4_writeCode_51 rfl (lv_at hl_7 0 rfl) ?_
          refine lv_iadd hx hb dX4_writeCode_52 ?_
          refine lv_topi (fun x_11 ex_11 => ?_)
          have ex_11 : x_11 = (97 : Int32) + x_6 := ex_11
          refine lv_bipush (v := 10) hx hb dX4_writeCode_53 (by decide) ?_
          refine lv_isub hx hb dX4_writeCode_55 ?_
          refine lv_topi (fun x_12 ex_12 => ?_)
          have ex_12 : x_12 = x_11 - (10 : Int32) := ex_12
          have w_13 := (((w_b21.2 c_4 x_5 ex_5 x_6 ex_6).1 c_10) x_11 ex_11) x_12 ex_12
          exact k_56 x_12 l2_21 v_row_count_21 v_row_over_21 v_row_items_21 _ _ _ w_13 hP_b21 hD_b21 hS_b21 (lv_sub hl_7 [1, 2, 3] rfl)
        · refine lv_bipush (v := 48) hx hb dX4_writeCode_42 (by decide) ?_
          refine lv_iload_n hx hb dX4_writeCode_44 rfl (lv_at hl_7 0 rfl) ?_
          refine lv_iadd hx hb dX4_writeCode_45 ?_
          refine lv_topi (fun x_14 ex_14 => ?_)
          have ex_14 : x_14 = (48 : Int32) + x_6 := ex_14
          refine lv_goto (tgt := 56) hx hb dX4_writeCode_46 (by decide) ?_
          have w_15 := ((w_b21.2 c_4 x_5 ex_5 x_6 ex_6).2 c_10) x_14 ex_14
          exact k_56 x_14 l2_21 v_row_count_21 v_row_over_21 v_row_items_21 _ _ _ w_15 hP_b21 hD_b21 hS_b21 (lv_sub hl_7 [1, 2, 3] rfl)
  obtain ⟨n_16, w_16⟩ := w_2
  exact k_21 n_16 12 r_2_0 r_2_1 r_2_2 _ _ _ w_16 hP_2 hD_2 hS_2 (lv_sub hl_3 [1, 2, 0] rfl)
def w_X4_writeMember_52 (p1 : Int32) (nv_row_items : Nat) (Q : Int32 → Bool → (Nat → Int32) → Prop) (v_row_count_52 : Int32) (v_row_over_52 : Bool) (v_row_items_52 : Nat → Int32) : Prop :=
  w_X7_add p1 v_row_count_52 v_row_over_52 v_row_items_52 nv_row_items (fun r_3_0 r_3_1 r_3_2 => Q  r_3_0 r_3_1 r_3_2)
def w_X4_writeMember_43 (p1 : Int32) (nv_row_items : Nat) (Q : Int32 → Bool → (Nat → Int32) → Prop) (v_row_count_43 : Int32) (v_row_over_43 : Bool) (v_row_items_43 : Nat → Int32) : Prop :=
  w_X7_add 92 v_row_count_43 v_row_over_43 v_row_items_43 nv_row_items (fun r_4_0 r_4_1 r_4_2 => w_X4_writeMember_52 p1 nv_row_items Q r_4_0 r_4_1 r_4_2)
def w_X4_writeMember (p1 : Int32) (v_row_count : Int32) (v_row_over : Bool) (v_row_items : Nat → Int32) (nv_row_items : Nat) (Q : Int32 → Bool → (Nat → Int32) → Prop) : Prop :=
  w_X11_isTapeSign p1 (fun r_1 => ((¬ r_1 = 0) → ((p1 = 91) → w_X4_writeMember_43 p1 nv_row_items Q v_row_count v_row_over v_row_items) ∧ ((¬ p1 = 91) → ((p1 = 93) → w_X4_writeMember_43 p1 nv_row_items Q v_row_count v_row_over v_row_items) ∧ ((¬ p1 = 93) → ((p1 = 94) → w_X4_writeMember_43 p1 nv_row_items Q v_row_count v_row_over v_row_items) ∧ ((¬ p1 = 94) → ((p1 = 45) → w_X4_writeMember_43 p1 nv_row_items Q v_row_count v_row_over v_row_items) ∧ ((¬ p1 = 45) → ((¬ p1 = 92) → w_X4_writeMember_52 p1 nv_row_items Q v_row_count v_row_over v_row_items) ∧ ((p1 = 92) → w_X4_writeMember_43 p1 nv_row_items Q v_row_count v_row_over v_row_items)))))) ∧ ((r_1 = 0) → w_X4_writeCode p1 v_row_count v_row_over v_row_items nv_row_items (fun r_12_0 r_12_1 r_12_2 => Q  r_12_0 r_12_1 r_12_2)))
set_option maxHeartbeats 4000000 in
set_option maxRecDepth 100000 in
theorem mt_X4_writeMember (l : Launch) (dC : Nat → ClassId) (dI : Nat → Nat → Nat) (h0 h1 h2 : Nat) (k0 : ClassId) (p1 : Int32) (v_row_count : Int32) (v_row_over : Bool) (v_row_there : Bool) (v_row_items : Nat → Int32) (nv_row_items : Nat) (v_behindOpening : Int32) (Q : Int32 → Bool → (Nat → Int32) → Prop) (w : w_X4_writeMember p1 v_row_count v_row_over v_row_items nv_row_items Q) (sz : Nat) : Met l yX4_writeMember (WS yX4_writeMember cX4_writeMember 2 none) ({ frames := 2, cells := 0, slots := 0, locals := 44 } : Room) (va_Pc [.ref h0, .int p1] (fun U => U.heap.size = sz ∧ va_P (dC, dI) vwCl [(h1, .inr (10, oX7 (.ref h2) v_row_count v_row_over v_row_there)), (h2, .inl (k0, nv_row_items, .inl v_row_items)), (h0, .inr (7, oX4 (.ref h1) v_behindOpening))] U.heap ∧ va_K (dC, dI) vwCl [(k0, .int)] U ∧ va_D (fun _ => True) [(h1, .inr (10, oX7 (.ref h2) v_row_count v_row_over v_row_there)), (h2, .inl (k0, nv_row_items, .inl v_row_items)), (h0, .inr (7, oX4 (.ref h1) v_behindOpening))] ∧ EX U)) (va_Qv (fun (u : Nat) => u = 0) (fun (_ : Nat) (t : State) => ∃ (ov_row_count : Int32), ∃ (ov_row_over : Bool), ∃ (ov_row_items : Nat → Int32), (Q ov_row_count ov_row_over ov_row_items) ∧ va_P (dC, dI) vwCl [(h1, .inr (10, oX7 (.ref h2) ov_row_count ov_row_over v_row_there)), (h2, .inl (k0, nv_row_items, .inl ov_row_items)), (h0, .inr (7, oX4 (.ref h1) v_behindOpening))] t.heap ∧ va_D (va_A [(h1, .inr (10, oX7 (.ref h2) v_row_count v_row_over v_row_there)), (h2, .inl (k0, nv_row_items, .inl v_row_items)), (h0, .inr (7, oX4 (.ref h1) v_behindOpening))] sz) [(h1, .inr (10, oX7 (.ref h2) ov_row_count ov_row_over v_row_there)), (h2, .inl (k0, nv_row_items, .inl ov_row_items)), (h0, .inr (7, oX4 (.ref h1) v_behindOpening))]) (va_A [(h1, .inr (10, oX7 (.ref h2) v_row_count v_row_over v_row_there)), (h2, .inl (k0, nv_row_items, .inl v_row_items)), (h0, .inr (7, oX4 (.ref h1) v_behindOpening))] sz)) 0 0 (va_A [(h1, .inr (10, oX7 (.ref h2) v_row_count v_row_over v_row_there)), (h2, .inl (k0, nv_row_items, .inl v_row_items)), (h0, .inr (7, oX4 (.ref h1) v_behindOpening))] sz) := by
  refine Met.ofW (cc := cX4_writeMember) (maxL := 2) (ret := none) (by decide) rfl ?_
  intro p e s m args below meth c s₁ B hml hv
  obtain ⟨rfl, hsz, hP, hK, hD0, hE⟩ := hv
  have hx := B.exec
  have hb := B.bytes
  have hr := B.returns
  have hts := atoms_spec (ws := WS yX4_writeMember cX4_writeMember 2 none) B.pre
  have ht : ∀ w ∈ TW, w.before _ s = true := fun w h => hts w (List.mem_cons_of_mem _ h)
  have hown : s.vm.findClass "PatternWorkshop$Printer" = some m.cls := findClass_of_methodNamed B.named
  have hlocks := B.notSynchronized
  subst hsz
  have hD := hD0.self (sz := s.heap.size)
  generalize hAe : va_A [(h1, .inr (10, oX7 (.ref h2) v_row_count v_row_over v_row_there)), (h2, .inl (k0, nv_row_items, .inl v_row_items)), (h0, .inr (7, oX4 (.ref h1) v_behindOpening))] s.heap.size = A at hD ⊢
  have hA : ∀ q : Nat, s.heap.size ≤ q → A q := fun q h => by rw [← hAe]; exact Or.inr h
  have hS : va_S A s.heap s.heap [] := va_S.rf
  have hP : va_P (dC, dI) vwCl [(h1, .inr (10, oX7 (.ref h2) v_row_count v_row_over v_row_there)), (h2, .inl (k0, nv_row_items, .inl v_row_items)), (h0, .inr (7, oX4 (.ref h1) v_behindOpening))] s.heap := hP
  have hl := lv_entry ([.ref h0, .int p1]) (n := 2) (Nat.le_of_ble_eq_true rfl)
  rw [lg_entry_eq]
  generalize (lg_sl ([.ref h0, .int p1]) ++ List.replicate (2 - (lg_sl ([.ref h0, .int p1])).length) Slot.unset).toArray = ls at hl ⊢
  have hl : lv_has ls 2 [(0, .ref h0), (1, .int p1)] := hl
  clear hD0
  obtain ⟨QQ, hQQ⟩ : ∃ QQ, QQ = MQ below (va_Qv (fun (u : Nat) => u = 0) (fun (_ : Nat) (t : State) => ∃ (ov_row_count : Int32), ∃ (ov_row_over : Bool), ∃ (ov_row_items : Nat → Int32), (Q ov_row_count ov_row_over ov_row_items) ∧ va_P (dC, dI) vwCl [(h1, .inr (10, oX7 (.ref h2) ov_row_count ov_row_over v_row_there)), (h2, .inl (k0, nv_row_items, .inl ov_row_items)), (h0, .inr (7, oX4 (.ref h1) v_behindOpening))] t.heap ∧ va_D A [(h1, .inr (10, oX7 (.ref h2) ov_row_count ov_row_over v_row_there)), (h2, .inl (k0, nv_row_items, .inl ov_row_items)), (h0, .inr (7, oX4 (.ref h1) v_behindOpening))]) A) ([.ref h0, .int p1]).toArray s 0 0 A := ⟨_, rfl⟩
  show W p l e ({ frames := 2, cells := 0, slots := 0, locals := 44 } : Room) s m ([.ref h0, .int p1]).toArray below meth c s.heap [] 0 0 (MQ below (va_Qv (fun (u : Nat) => u = 0) (fun (_ : Nat) (t : State) => ∃ (ov_row_count : Int32), ∃ (ov_row_over : Bool), ∃ (ov_row_items : Nat → Int32), (Q ov_row_count ov_row_over ov_row_items) ∧ va_P (dC, dI) vwCl [(h1, .inr (10, oX7 (.ref h2) ov_row_count ov_row_over v_row_there)), (h2, .inl (k0, nv_row_items, .inl ov_row_items)), (h0, .inr (7, oX4 (.ref h1) v_behindOpening))] t.heap ∧ va_D A [(h1, .inr (10, oX7 (.ref h2) ov_row_count ov_row_over v_row_there)), (h2, .inl (k0, nv_row_items, .inl ov_row_items)), (h0, .inr (7, oX4 (.ref h1) v_behindOpening))]) A) ([.ref h0, .int p1]).toArray s 0 0 A) (F0 m 0 ls [])
  rw [← hQQ]
  unfold w_X4_writeMember at w
  refine lv_iload_n hx hb dX4_writeMember_0 rfl (lv_at hl 1 rfl) ?_
  have hPc_1 := vaPq hP (wsq := []) [] rfl
  have hDc_1 := vaDq hD (wsq := []) [] (by decide) rfl
  have hKc_1 := vaKq hK (tysq := []) [] rfl
  have hFc_1 := va_free (wc := []) hD hS hA [] rfl
  refine va_calli (va_runSN (As := [.int p1]) (rest := []) ⟨hx, hb, hml, hown, ht⟩ (mt_X11_isTapeSign l dC dI p1 _ w s.heap.size) ⟨va_cnB 1 ht gw_X11_isTapeSign rfl rfl rfl (hE.2.2.2.2.2.2.2.2.2.2.2.2.2.2.2.2.1) (ht _ tw_236) (by decide +kernel) ⟨Nat.le_of_ble_eq_true rfl, Nat.le_of_ble_eq_true rfl⟩, ht _ tw_863, trivial⟩ ⟨fun a U g mk q => by obtain ⟨q0, q1, qP, qK, qD⟩ := q; exact ⟨q0, q1, qP, va_K.moved (u := U) (U := U.calling g mk a) (Vm.Alike.refl U.vm) qK, qD⟩, fun U hU hW => ⟨rfl, by rw [hU], by rw [hU]; exact hPc_1, va_K.moved hW.alike hKc_1, hDc_1.weaken (fun _ _ _ _ => trivial)⟩⟩ rfl rfl hl.1 rfl (lv_room (Nat.le_of_ble_eq_true rfl)) dX4_writeMember_1 ⟨Nat.le_of_ble_eq_true rfl, Nat.le_of_ble_eq_true rfl⟩) hS (fun q _ h => hFc_1 q h) hFc_1 (fun r_1 u_1 t_1 H_1 locs_1 ht_1 hvm_1 hw_1 hB_1 hz_1 hk_1 hS_1 => ?_)
  subst hw_1
  obtain ⟨w_1, hP1_1, hD1_1⟩ := hB_1
  rw [ht_1] at hP1_1
  obtain ⟨hP_1, hD_1⟩ := va_join (wr := [(h1, .inr (10, oX7 (.ref h2) v_row_count v_row_over v_row_there)), (h2, .inl (k0, nv_row_items, .inl v_row_items)), (h0, .inr (7, oX4 (.ref h1) v_behindOpening))]) (w1 := []) hP hD [] [0, 1, 2] rfl rfl (by decide) (by decide) hk_1 hFc_1 hP1_1 hD1_1
  have hP_1 := vaPq hP_1 (wsq := [(h1, .inr (10, oX7 (.ref h2) v_row_count v_row_over v_row_there)), (h2, .inl (k0, nv_row_items, .inl v_row_items)), (h0, .inr (7, oX4 (.ref h1) v_behindOpening))]) [0, 1, 2] rfl
  have hD_1 := vaDq hD_1 (wsq := [(h1, .inr (10, oX7 (.ref h2) v_row_count v_row_over v_row_there)), (h2, .inl (k0, nv_row_items, .inl v_row_items)), (h0, .inr (7, oX4 (.ref h1) v_behindOpening))]) [0, 1, 2] (by decide) rfl
  clear hPc_1 hDc_1 hKc_1 hFc_1 hP1_1 hD1_1 hk_1 hz_1
  refine lv_if_ne (tgt := 13) hx hb dX4_writeMember_4 (by decide) (fun c_2 => ?_) (fun c_2 => ?_)
  · refine lv_iload_n hx hb dX4_writeMember_13 rfl (lv_at hl 1 rfl) ?_
    refine lv_bipush (v := 91) hx hb dX4_writeMember_14 (by decide) ?_
    have k_52 : ∀ (v_row_count_52 : Int32) (v_row_over_52 : Bool) (v_row_items_52 : Nat → Int32), ∀ (H_b52 : Heap) (locs_b52 : List Loc) (ls_b52 : Array Slot), w_X4_writeMember_52 p1 nv_row_items Q v_row_count_52 v_row_over_52 v_row_items_52 → va_P (dC, dI) vwCl [(h1, .inr (10, oX7 (.ref h2) v_row_count_52 v_row_over_52 v_row_there)), (h2, .inl (k0, nv_row_items, .inl v_row_items_52)), (h0, .inr (7, oX4 (.ref h1) v_behindOpening))] H_b52 → va_D A [(h1, .inr (10, oX7 (.ref h2) v_row_count_52 v_row_over_52 v_row_there)), (h2, .inl (k0, nv_row_items, .inl v_row_items_52)), (h0, .inr (7, oX4 (.ref h1) v_behindOpening))] → va_S A s.heap H_b52 locs_b52 → lv_has ls_b52 2 [(0, .ref h0), (1, .int p1)] → W p l e ({ frames := 2, cells := 0, slots := 0, locals := 44 } : Room) s m ([.ref h0, .int p1]).toArray below meth c H_b52 locs_b52 0 0 QQ (F0 m 52 ls_b52 []) := by
      intro v_row_count_52 v_row_over_52 v_row_items_52 H_b52 locs_b52 ls_b52 w_b52 hP_b52 hD_b52 hS_b52 hl_b52
      unfold w_X4_writeMember_52 at w_b52
      refine lv_aload_n hx hb dX4_writeMember_52 rfl (lv_at hl_b52 0 rfl) ?_
      refine va_get (D := (dC, dI)) (ci := 7) (v := .ref h1) (C := RX4) (T := TX4) (N := 2) hx hb ht inX4 hown hK hP_b52 2 rfl rfl 0 (by decide) (ht _ tw_503) (fun _ h9 => h9) rfl dX4_writeMember_53 ?_
      refine lv_iload_n hx hb dX4_writeMember_56 rfl (lv_at hl_b52 1 rfl) ?_
      have hPc_3 := vaPq hP_b52 (wsq := [(h1, .inr (10, oX7 (.ref h2) v_row_count_52 v_row_over_52 v_row_there)), (h2, .inl (k0, nv_row_items, .inl v_row_items_52))]) [0, 1] rfl
      have hDc_3 := vaDq hD_b52 (wsq := [(h1, .inr (10, oX7 (.ref h2) v_row_count_52 v_row_over_52 v_row_there)), (h2, .inl (k0, nv_row_items, .inl v_row_items_52))]) [0, 1] (by decide) rfl
      have hKc_3 := vaKq hK (tysq := [(k0, .int)]) [0] rfl
      have hFc_3 := va_free (wc := [(h1, .inr (10, oX7 (.ref h2) v_row_count_52 v_row_over_52 v_row_there)), (h2, .inl (k0, nv_row_items, .inl v_row_items_52))]) hD_b52 hS_b52 hA [0, 1] rfl
      refine va_callv (va_runV (As := [.int p1]) (rest := []) ⟨hx, hb, hml, hown, ht⟩ (mt_X7_add l dC dI h1 h2 k0 p1 v_row_count_52 v_row_over_52 v_row_there v_row_items_52 nv_row_items _ w_b52 H_b52.size) (cwV 1 ht (goodV tw_1209 tw_866 tw_867 tw_237 gw_X7_add) rfl rfl rfl (by decide +kernel) ⟨Nat.le_of_ble_eq_true rfl, Nat.le_of_ble_eq_true rfl⟩) ⟨fun a U g mk q => by obtain ⟨q0, q1, qP, qK, qD⟩ := q; exact ⟨q0, q1, qP, va_K.moved (u := U) (U := U.calling g mk a) (Vm.Alike.refl U.vm) qK, qD⟩, va_recv hKc_3 hPc_3 (ci := 10) (q0 := 0) rfl rfl, fun U hU hW => ⟨rfl, by rw [hU], by rw [hU]; exact hPc_3, va_K.moved hW.alike hKc_3, hDc_3.weaken (fun _ _ _ _ => trivial)⟩⟩ rfl rfl hl_b52.1 rfl (lv_room (Nat.le_of_ble_eq_true rfl)) dX4_writeMember_57 ⟨Nat.le_of_ble_eq_true rfl, Nat.le_of_ble_eq_true rfl⟩) hS_b52 (fun q _ h => hFc_3 q h) hFc_3 (fun u_3 t_3 H_3 locs_3 ht_3 hvm_3 hw_3 hB_3 hz_3 hk_3 hS_3 => ?_)
      subst hw_3
      obtain ⟨r_3_0, r_3_1, r_3_2, w_3, hP1_3, hD1_3⟩ := hB_3
      rw [ht_3] at hP1_3
      obtain ⟨hP_3, hD_3⟩ := va_join (wr := [(h0, .inr (7, oX4 (.ref h1) v_behindOpening))]) (w1 := [(h1, .inr (10, oX7 (.ref h2) r_3_0 r_3_1 v_row_there)), (h2, .inl (k0, nv_row_items, .inl r_3_2))]) hP_b52 hD_b52 [0, 1] [2] rfl rfl (by decide) (by decide) hk_3 hFc_3 hP1_3 hD1_3
      have hP_3 := vaPq hP_3 (wsq := [(h1, .inr (10, oX7 (.ref h2) r_3_0 r_3_1 v_row_there)), (h2, .inl (k0, nv_row_items, .inl r_3_2)), (h0, .inr (7, oX4 (.ref h1) v_behindOpening))]) [1, 2, 0] rfl
      have hD_3 := vaDq hD_3 (wsq := [(h1, .inr (10, oX7 (.ref h2) r_3_0 r_3_1 v_row_there)), (h2, .inl (k0, nv_row_items, .inl r_3_2)), (h0, .inr (7, oX4 (.ref h1) v_behindOpening))]) [1, 2, 0] (by decide) rfl
      clear hPc_3 hDc_3 hKc_3 hFc_3 hP1_3 hD1_3 hk_3 hz_3
      rw [hQQ]
      exact W.vret hx hb hr (fun t9 ht9 hW9 => ⟨⟨0, rfl, rfl, ⟨r_3_0, r_3_1, r_3_2, w_3, by rw [ht9]; exact hP_3, hD_3⟩⟩, hS_3.F ht9⟩) hS_3.2.2 dX4_writeMember_60
    have k_43 : ∀ (v_row_count_43 : Int32) (v_row_over_43 : Bool) (v_row_items_43 : Nat → Int32), ∀ (H_b43 : Heap) (locs_b43 : List Loc) (ls_b43 : Array Slot), w_X4_writeMember_43 p1 nv_row_items Q v_row_count_43 v_row_over_43 v_row_items_43 → va_P (dC, dI) vwCl [(h1, .inr (10, oX7 (.ref h2) v_row_count_43 v_row_over_43 v_row_there)), (h2, .inl (k0, nv_row_items, .inl v_row_items_43)), (h0, .inr (7, oX4 (.ref h1) v_behindOpening))] H_b43 → va_D A [(h1, .inr (10, oX7 (.ref h2) v_row_count_43 v_row_over_43 v_row_there)), (h2, .inl (k0, nv_row_items, .inl v_row_items_43)), (h0, .inr (7, oX4 (.ref h1) v_behindOpening))] → va_S A s.heap H_b43 locs_b43 → lv_has ls_b43 2 [(0, .ref h0), (1, .int p1)] → W p l e ({ frames := 2, cells := 0, slots := 0, locals := 44 } : Room) s m ([.ref h0, .int p1]).toArray below meth c H_b43 locs_b43 0 0 QQ (F0 m 43 ls_b43 []) := by
      intro v_row_count_43 v_row_over_43 v_row_items_43 H_b43 locs_b43 ls_b43 w_b43 hP_b43 hD_b43 hS_b43 hl_b43
      unfold w_X4_writeMember_43 at w_b43
      refine lv_aload_n hx hb dX4_writeMember_43 rfl (lv_at hl_b43 0 rfl) ?_
      refine va_get (D := (dC, dI)) (ci := 7) (v := .ref h1) (C := RX4) (T := TX4) (N := 2) hx hb ht inX4 hown hK hP_b43 2 rfl rfl 0 (by decide) (ht _ tw_503) (fun _ h9 => h9) rfl dX4_writeMember_44 ?_
      refine lv_bipush (v := 92) hx hb dX4_writeMember_47 (by decide) ?_
      have hPc_4 := vaPq hP_b43 (wsq := [(h1, .inr (10, oX7 (.ref h2) v_row_count_43 v_row_over_43 v_row_there)), (h2, .inl (k0, nv_row_items, .inl v_row_items_43))]) [0, 1] rfl
      have hDc_4 := vaDq hD_b43 (wsq := [(h1, .inr (10, oX7 (.ref h2) v_row_count_43 v_row_over_43 v_row_there)), (h2, .inl (k0, nv_row_items, .inl v_row_items_43))]) [0, 1] (by decide) rfl
      have hKc_4 := vaKq hK (tysq := [(k0, .int)]) [0] rfl
      have hFc_4 := va_free (wc := [(h1, .inr (10, oX7 (.ref h2) v_row_count_43 v_row_over_43 v_row_there)), (h2, .inl (k0, nv_row_items, .inl v_row_items_43))]) hD_b43 hS_b43 hA [0, 1] rfl
      refine va_callv (va_runV (As := [.int 92]) (rest := []) ⟨hx, hb, hml, hown, ht⟩ (mt_X7_add l dC dI h1 h2 k0 92 v_row_count_43 v_row_over_43 v_row_there v_row_items_43 nv_row_items _ w_b43 H_b43.size) (cwV 1 ht (goodV tw_1209 tw_866 tw_867 tw_237 gw_X7_add) rfl rfl rfl (by decide +kernel) ⟨Nat.le_of_ble_eq_true rfl, Nat.le_of_ble_eq_true rfl⟩) ⟨fun a U g mk q => by obtain ⟨q0, q1, qP, qK, qD⟩ := q; exact ⟨q0, q1, qP, va_K.moved (u := U) (U := U.calling g mk a) (Vm.Alike.refl U.vm) qK, qD⟩, va_recv hKc_4 hPc_4 (ci := 10) (q0 := 0) rfl rfl, fun U hU hW => ⟨rfl, by rw [hU], by rw [hU]; exact hPc_4, va_K.moved hW.alike hKc_4, hDc_4.weaken (fun _ _ _ _ => trivial)⟩⟩ rfl rfl hl_b43.1 rfl (lv_room (Nat.le_of_ble_eq_true rfl)) dX4_writeMember_49 ⟨Nat.le_of_ble_eq_true rfl, Nat.le_of_ble_eq_true rfl⟩) hS_b43 (fun q _ h => hFc_4 q h) hFc_4 (fun u_4 t_4 H_4 locs_4 ht_4 hvm_4 hw_4 hB_4 hz_4 hk_4 hS_4 => ?_)
      subst hw_4
      obtain ⟨r_4_0, r_4_1, r_4_2, w_4, hP1_4, hD1_4⟩ := hB_4
      rw [ht_4] at hP1_4
      obtain ⟨hP_4, hD_4⟩ := va_join (wr := [(h0, .inr (7, oX4 (.ref h1) v_behindOpening))]) (w1 := [(h1, .inr (10, oX7 (.ref h2) r_4_0 r_4_1 v_row_there)), (h2, .inl (k0, nv_row_items, .inl r_4_2))]) hP_b43 hD_b43 [0, 1] [2] rfl rfl (by decide) (by decide) hk_4 hFc_4 hP1_4 hD1_4
      have hP_4 := vaPq hP_4 (wsq := [(h1, .inr (10, oX7 (.ref h2) r_4_0 r_4_1 v_row_there)), (h2, .inl (k0, nv_row_items, .inl r_4_2)), (h0, .inr (7, oX4 (.ref h1) v_behindOpening))]) [1, 2, 0] rfl
      have hD_4 := vaDq hD_4 (wsq := [(h1, .inr (10, oX7 (.ref h2) r_4_0 r_4_1 v_row_there)), (h2, .inl (k0, nv_row_items, .inl r_4_2)), (h0, .inr (7, oX4 (.ref h1) v_behindOpening))]) [1, 2, 0] (by decide) rfl
      clear hPc_4 hDc_4 hKc_4 hFc_4 hP1_4 hD1_4 hk_4 hz_4
      exact k_52 r_4_0 r_4_1 r_4_2 _ _ _ w_4 hP_4 hD_4 hS_4 (lv_sub hl_b43 [0, 1] rfl)
    refine lv_icmp_eq (tgt := 43) hx hb dX4_writeMember_16 (by decide) (fun c_5 => ?_) (fun c_5 => ?_)
    · exact k_43 v_row_count v_row_over v_row_items _ _ _ ((w_1.1 c_2).1 c_5) hP_1 hD_1 hS_1 (lv_sub hl [0, 1] rfl)
    · refine lv_iload_n hx hb dX4_writeMember_19 rfl (lv_at hl 1 rfl) ?_
      refine lv_bipush (v := 93) hx hb dX4_writeMember_20 (by decide) ?_
      refine lv_icmp_eq (tgt := 43) hx hb dX4_writeMember_22 (by decide) (fun c_6 => ?_) (fun c_6 => ?_)
      · exact k_43 v_row_count v_row_over v_row_items _ _ _ (((w_1.1 c_2).2 c_5).1 c_6) hP_1 hD_1 hS_1 (lv_sub hl [0, 1] rfl)
      · refine lv_iload_n hx hb dX4_writeMember_25 rfl (lv_at hl 1 rfl) ?_
        refine lv_bipush (v := 94) hx hb dX4_writeMember_26 (by decide) ?_
        refine lv_icmp_eq (tgt := 43) hx hb dX4_writeMember_28 (by decide) (fun c_7 => ?_) (fun c_7 => ?_)
        · exact k_43 v_row_count v_row_over v_row_items _ _ _ ((((w_1.1 c_2).2 c_5).2 c_6).1 c_7) hP_1 hD_1 hS_1 (lv_sub hl [0, 1] rfl)
        · refine lv_iload_n hx hb dX4_writeMember_31 rfl (lv_at hl 1 rfl) ?_
          refine lv_bipush (v := 45) hx hb dX4_writeMember_32 (by decide) ?_
          refine lv_icmp_eq (tgt := 43) hx hb dX4_writeMember_34 (by decide) (fun c_8 => ?_) (fun c_8 => ?_)
          · have w_9 := ((((w_1.1 c_2).2 c_5).2 c_6).2 c_7).1 c_8
            exact k_43 v_row_count v_row_over v_row_items _ _ _ w_9 hP_1 hD_1 hS_1 (lv_sub hl [0, 1] rfl)
          · refine lv_iload_n hx hb dX4_writeMember_37 rfl (lv_at hl 1 rfl) ?_
            refine lv_bipush (v := 92) hx hb dX4_writeMember_38 (by decide) ?_
            have w_10 := ((((w_1.1 c_2).2 c_5).2 c_6).2 c_7).2 c_8
            refine lv_icmp_ne (tgt := 52) hx hb dX4_writeMember_40 (by decide) (fun c_11 => ?_) (fun c_11 => ?_)
            · exact k_52 v_row_count v_row_over v_row_items _ _ _ (w_10.1 c_11) hP_1 hD_1 hS_1 (lv_sub hl [0, 1] rfl)
            · exact k_43 v_row_count v_row_over v_row_items _ _ _ (w_10.2 c_11) hP_1 hD_1 hS_1 (lv_sub hl [0, 1] rfl)
  · refine lv_aload_n hx hb dX4_writeMember_7 rfl (lv_at hl 0 rfl) ?_
    refine lv_iload_n hx hb dX4_writeMember_8 rfl (lv_at hl 1 rfl) ?_
    have hPc_12 := vaPq hP_1 (wsq := [(h1, .inr (10, oX7 (.ref h2) v_row_count v_row_over v_row_there)), (h2, .inl (k0, nv_row_items, .inl v_row_items)), (h0, .inr (7, oX4 (.ref h1) v_behindOpening))]) [0, 1, 2] rfl
    have hDc_12 := vaDq hD_1 (wsq := [(h1, .inr (10, oX7 (.ref h2) v_row_count v_row_over v_row_there)), (h2, .inl (k0, nv_row_items, .inl v_row_items)), (h0, .inr (7, oX4 (.ref h1) v_behindOpening))]) [0, 1, 2] (by decide) rfl
    have hKc_12 := vaKq hK (tysq := [(k0, .int)]) [0] rfl
    have hFc_12 := va_free (wc := [(h1, .inr (10, oX7 (.ref h2) v_row_count v_row_over v_row_there)), (h2, .inl (k0, nv_row_items, .inl v_row_items)), (h0, .inr (7, oX4 (.ref h1) v_behindOpening))]) hD_1 hS_1 hA [0, 1, 2] rfl
    refine va_callv (va_runV (As := [.int p1]) (rest := []) ⟨hx, hb, hml, hown, ht⟩ (mt_X4_writeCode l dC dI h0 h1 h2 k0 p1 v_row_count v_row_over v_row_there v_row_items nv_row_items v_behindOpening _ (w_1.2 c_2) H_1.size) (cwV 1 ht (goodV tw_1223 tw_1225 tw_44 tw_242 gw_X4_writeCode) rfl rfl rfl (by decide +kernel) ⟨Nat.le_of_ble_eq_true rfl, Nat.le_of_ble_eq_true rfl⟩) ⟨fun a U g mk q => by obtain ⟨q0, q1, qP, qK, qD⟩ := q; exact ⟨q0, q1, qP, va_K.moved (u := U) (U := U.calling g mk a) (Vm.Alike.refl U.vm) qK, qD⟩, va_recv hKc_12 hPc_12 (ci := 7) (q0 := 2) rfl rfl, fun U hU hW => ⟨rfl, by rw [hU], by rw [hU]; exact hPc_12, va_K.moved hW.alike hKc_12, hDc_12.weaken (fun _ _ _ _ => trivial)⟩⟩ rfl rfl hl.1 rfl (lv_room (Nat.le_of_ble_eq_true rfl)) dX4_writeMember_9 ⟨Nat.le_of_ble_eq_true rfl, Nat.le_of_ble_eq_true rfl⟩) hS_1 (fun q _ h => hFc_12 q h) hFc_12 (fun u_12 t_12 H_12 locs_12 ht_12 hvm_12 hw_12 hB_12 hz_12 hk_12 hS_12 => ?_)
    subst hw_12
    obtain ⟨r_12_0, r_12_1, r_12_2, w_12, hP1_12, hD1_12⟩ := hB_12
    rw [ht_12] at hP1_12
    obtain ⟨hP_12, hD_12⟩ := va_join (wr := []) (w1 := [(h1, .inr (10, oX7 (.ref h2) r_12_0 r_12_1 v_row_there)), (h2, .inl (k0, nv_row_items, .inl r_12_2)), (h0, .inr (7, oX4 (.ref h1) v_behindOpening))]) hP_1 hD_1 [0, 1, 2] [] rfl rfl (by decide) (by decide) hk_12 hFc_12 hP1_12 hD1_12
    have hP_12 := vaPq hP_12 (wsq := [(h1, .inr (10, oX7 (.ref h2) r_12_0 r_12_1 v_row_there)), (h2, .inl (k0, nv_row_items, .inl r_12_2)), (h0, .inr (7, oX4 (.ref h1) v_behindOpening))]) [0, 1, 2] rfl
    have hD_12 := vaDq hD_12 (wsq := [(h1, .inr (10, oX7 (.ref h2) r_12_0 r_12_1 v_row_there)), (h2, .inl (k0, nv_row_items, .inl r_12_2)), (h0, .inr (7, oX4 (.ref h1) v_behindOpening))]) [0, 1, 2] (by decide) rfl
    clear hPc_12 hDc_12 hKc_12 hFc_12 hP1_12 hD1_12 hk_12 hz_12
    rw [hQQ]
    exact W.vret hx hb hr (fun t9 ht9 hW9 => ⟨⟨0, rfl, rfl, ⟨r_12_0, r_12_1, r_12_2, w_12, by rw [ht9]; exact hP_12, hD_12⟩⟩, hS_12.F ht9⟩) hS_12.2.2 dX4_writeMember_12
