def w_X8_writeParting_40 (na1_items : Nat) (Q : Int32 → Bool → (Nat → Int32) → Prop) (a1_count_40 : Int32) (a1_over_40 : Bool) (a1_items_40 : Nat → Int32) : Prop :=
  w_X7_turnRound a1_count_40 a1_items_40 na1_items (fun r_3_0 => Q  a1_count_40 a1_over_40 r_3_0)
def w_X8_writeParting_9B (na1_items : Nat) (v_cameFrom : Nat → Int32) (v_cameBy : Nat → Int32) (Q : Int32 → Bool → (Nat → Int32) → Prop) (K9 : Int32 → Int32 → Bool → (Nat → Int32) → Prop) (l2_9 : Int32) (a1_count_9 : Int32) (a1_over_9 : Bool) (a1_items_9 : Nat → Int32) : Prop :=
  ((l2_9 ≤ 0) → w_X8_writeParting_40 na1_items Q a1_count_9 a1_over_9 a1_items_9) ∧ ((¬ l2_9 ≤ 0) → ((3600 ≤ l2_9) → w_X8_writeParting_40 na1_items Q a1_count_9 a1_over_9 a1_items_9) ∧ ((¬ 3600 ≤ l2_9) → vp_in l2_9 3600 ∧ ∀ x_6 : Int32, x_6 = v_cameBy l2_9.toNatClampNeg → w_X7_add x_6 a1_count_9 a1_over_9 a1_items_9 na1_items (fun r_7_0 r_7_1 r_7_2 => vp_in l2_9 3600 ∧ ∀ x_8 : Int32, x_8 = v_cameFrom l2_9.toNatClampNeg → K9 x_8 r_7_0 r_7_1 r_7_2)))
def w_X8_writeParting_9 (na1_items : Nat) (v_cameFrom : Nat → Int32) (v_cameBy : Nat → Int32) (Q : Int32 → Bool → (Nat → Int32) → Prop) : Nat → Int32 → Int32 → Bool → (Nat → Int32) → Prop
  | 0, _, _, _, _ => False
  | n9 + 1, l2_9, a1_count_9, a1_over_9, a1_items_9 => w_X8_writeParting_9B na1_items v_cameFrom v_cameBy Q (w_X8_writeParting_9 na1_items v_cameFrom v_cameBy Q n9) l2_9 a1_count_9 a1_over_9 a1_items_9
def w_X8_writeParting (a1_items : Nat → Int32) (na1_items : Nat) (v_parted : Int32) (v_cameFrom : Nat → Int32) (v_cameBy : Nat → Int32) (Q : Int32 → Bool → (Nat → Int32) → Prop) : Prop :=
  w_X7_empty  (fun r_1_0 r_1_1 => ∃ k9 : Nat, w_X8_writeParting_9 na1_items v_cameFrom v_cameBy Q k9 v_parted r_1_0 r_1_1 a1_items)
set_option maxHeartbeats 4000000 in
set_option maxRecDepth 100000 in
theorem mt_X8_writeParting (l : Launch) (dC : Nat → ClassId) (dI : Nat → Nat → Nat) (h0 h1 h2 h3 h4 h5 h6 h7 h8 h9 : Nat) (k0 k1 k2 : ClassId) (a1_count : Int32) (a1_over : Bool) (a1_there : Bool) (a1_items : Nat → Int32) (na1_items : Nat) (v_onlyInOne : Bool) (v_onlyInOther : Bool) (v_stamp : Int32) (v_pairCount : Int32) (v_parted : Int32) (v_cameFrom : Nat → Int32) (v_cameBy : Nat → Int32) (Q : Int32 → Bool → (Nat → Int32) → Prop) (w : w_X8_writeParting a1_items na1_items v_parted v_cameFrom v_cameBy Q) (sz : Nat) : Met l yX8_writeParting (WS yX8_writeParting cX8_writeParting 3 none) ({ frames := 1, cells := 0, slots := 0, locals := 23 } : Room) (va_Pc [.ref h0, .ref h1] (fun U => U.heap.size = sz ∧ va_P (dC, dI) vwCl [(h1, .inr (10, oX7 (.ref h2) a1_count a1_over a1_there)), (h2, .inl (k0, na1_items, .inl a1_items)), (h0, .inr (11, oX8 (.ref h5) (.ref h6) (.ref h7) v_onlyInOne v_onlyInOther (.ref h8) v_stamp (.ref h9) (.ref h3) (.ref h4) v_pairCount v_parted)), (h3, .inl (k1, 3600, .inl v_cameFrom)), (h4, .inl (k2, 3600, .inl v_cameBy))] U.heap ∧ va_K (dC, dI) vwCl [(k0, .int), (k1, .int), (k2, .int)] U ∧ va_D (fun _ => True) [(h1, .inr (10, oX7 (.ref h2) a1_count a1_over a1_there)), (h2, .inl (k0, na1_items, .inl a1_items)), (h0, .inr (11, oX8 (.ref h5) (.ref h6) (.ref h7) v_onlyInOne v_onlyInOther (.ref h8) v_stamp (.ref h9) (.ref h3) (.ref h4) v_pairCount v_parted)), (h3, .inl (k1, 3600, .inl v_cameFrom)), (h4, .inl (k2, 3600, .inl v_cameBy))])) (va_Qv (fun (u : Nat) => u = 0) (fun (_ : Nat) (t : State) => ∃ (oa1_count : Int32), ∃ (oa1_over : Bool), ∃ (oa1_items : Nat → Int32), (Q oa1_count oa1_over oa1_items) ∧ va_P (dC, dI) vwCl [(h1, .inr (10, oX7 (.ref h2) oa1_count oa1_over a1_there)), (h2, .inl (k0, na1_items, .inl oa1_items)), (h0, .inr (11, oX8 (.ref h5) (.ref h6) (.ref h7) v_onlyInOne v_onlyInOther (.ref h8) v_stamp (.ref h9) (.ref h3) (.ref h4) v_pairCount v_parted)), (h3, .inl (k1, 3600, .inl v_cameFrom)), (h4, .inl (k2, 3600, .inl v_cameBy))] t.heap ∧ va_D (va_A [(h1, .inr (10, oX7 (.ref h2) a1_count a1_over a1_there)), (h2, .inl (k0, na1_items, .inl a1_items)), (h0, .inr (11, oX8 (.ref h5) (.ref h6) (.ref h7) v_onlyInOne v_onlyInOther (.ref h8) v_stamp (.ref h9) (.ref h3) (.ref h4) v_pairCount v_parted)), (h3, .inl (k1, 3600, .inl v_cameFrom)), (h4, .inl (k2, 3600, .inl v_cameBy))] sz) [(h1, .inr (10, oX7 (.ref h2) oa1_count oa1_over a1_there)), (h2, .inl (k0, na1_items, .inl oa1_items)), (h0, .inr (11, oX8 (.ref h5) (.ref h6) (.ref h7) v_onlyInOne v_onlyInOther (.ref h8) v_stamp (.ref h9) (.ref h3) (.ref h4) v_pairCount v_parted)), (h3, .inl (k1, 3600, .inl v_cameFrom)), (h4, .inl (k2, 3600, .inl v_cameBy))]) (va_A [(h1, .inr (10, oX7 (.ref h2) a1_count a1_over a1_there)), (h2, .inl (k0, na1_items, .inl a1_items)), (h0, .inr (11, oX8 (.ref h5) (.ref h6) (.ref h7) v_onlyInOne v_onlyInOther (.ref h8) v_stamp (.ref h9) (.ref h3) (.ref h4) v_pairCount v_parted)), (h3, .inl (k1, 3600, .inl v_cameFrom)), (h4, .inl (k2, 3600, .inl v_cameBy))] sz)) 0 0 (va_A [(h1, .inr (10, oX7 (.ref h2) a1_count a1_over a1_there)), (h2, .inl (k0, na1_items, .inl a1_items)), (h0, .inr (11, oX8 (.ref h5) (.ref h6) (.ref h7) v_onlyInOne v_onlyInOther (.ref h8) v_stamp (.ref h9) (.ref h3) (.ref h4) v_pairCount v_parted)), (h3, .inl (k1, 3600, .inl v_cameFrom)), (h4, .inl (k2, 3600, .inl v_cameBy))] sz) := by
  refine Met.ofW (cc := cX8_writeParting) (maxL := 3) (ret := none) (by decide) rfl ?_
  intro p e s m args below meth c s₁ B hml hv
  obtain ⟨rfl, hsz, hP, hK, hD0⟩ := hv
  have hx := B.exec
  have hb := B.bytes
  have hr := B.returns
  have hts := atoms_spec (ws := WS yX8_writeParting cX8_writeParting 3 none) B.pre
  have ht : ∀ w ∈ TW, w.before _ s = true := fun w h => hts w (List.mem_cons_of_mem _ h)
  have hown : s.vm.findClass "PatternWorkshop$Sets" = some m.cls := findClass_of_methodNamed B.named
  have hlocks := B.notSynchronized
  subst hsz
  have hD := hD0.self (sz := s.heap.size)
  generalize hAe : va_A [(h1, .inr (10, oX7 (.ref h2) a1_count a1_over a1_there)), (h2, .inl (k0, na1_items, .inl a1_items)), (h0, .inr (11, oX8 (.ref h5) (.ref h6) (.ref h7) v_onlyInOne v_onlyInOther (.ref h8) v_stamp (.ref h9) (.ref h3) (.ref h4) v_pairCount v_parted)), (h3, .inl (k1, 3600, .inl v_cameFrom)), (h4, .inl (k2, 3600, .inl v_cameBy))] s.heap.size = A at hD ⊢
  have hA : ∀ q : Nat, s.heap.size ≤ q → A q := fun q h => by rw [← hAe]; exact Or.inr h
  have hS : va_S A s.heap s.heap [] := va_S.rf
  have hP : va_P (dC, dI) vwCl [(h1, .inr (10, oX7 (.ref h2) a1_count a1_over a1_there)), (h2, .inl (k0, na1_items, .inl a1_items)), (h0, .inr (11, oX8 (.ref h5) (.ref h6) (.ref h7) v_onlyInOne v_onlyInOther (.ref h8) v_stamp (.ref h9) (.ref h3) (.ref h4) v_pairCount v_parted)), (h3, .inl (k1, 3600, .inl v_cameFrom)), (h4, .inl (k2, 3600, .inl v_cameBy))] s.heap := hP
  have hl := lv_entry ([.ref h0, .ref h1]) (n := 3) (Nat.le_of_ble_eq_true rfl)
  rw [lg_entry_eq]
  generalize (lg_sl ([.ref h0, .ref h1]) ++ List.replicate (3 - (lg_sl ([.ref h0, .ref h1])).length) Slot.unset).toArray = ls at hl ⊢
  have hl : lv_has ls 3 [(0, .ref h0), (1, .ref h1)] := hl
  clear hD0
  obtain ⟨QQ, hQQ⟩ : ∃ QQ, QQ = MQ below (va_Qv (fun (u : Nat) => u = 0) (fun (_ : Nat) (t : State) => ∃ (oa1_count : Int32), ∃ (oa1_over : Bool), ∃ (oa1_items : Nat → Int32), (Q oa1_count oa1_over oa1_items) ∧ va_P (dC, dI) vwCl [(h1, .inr (10, oX7 (.ref h2) oa1_count oa1_over a1_there)), (h2, .inl (k0, na1_items, .inl oa1_items)), (h0, .inr (11, oX8 (.ref h5) (.ref h6) (.ref h7) v_onlyInOne v_onlyInOther (.ref h8) v_stamp (.ref h9) (.ref h3) (.ref h4) v_pairCount v_parted)), (h3, .inl (k1, 3600, .inl v_cameFrom)), (h4, .inl (k2, 3600, .inl v_cameBy))] t.heap ∧ va_D A [(h1, .inr (10, oX7 (.ref h2) oa1_count oa1_over a1_there)), (h2, .inl (k0, na1_items, .inl oa1_items)), (h0, .inr (11, oX8 (.ref h5) (.ref h6) (.ref h7) v_onlyInOne v_onlyInOther (.ref h8) v_stamp (.ref h9) (.ref h3) (.ref h4) v_pairCount v_parted)), (h3, .inl (k1, 3600, .inl v_cameFrom)), (h4, .inl (k2, 3600, .inl v_cameBy))]) A) ([.ref h0, .ref h1]).toArray s 0 0 A := ⟨_, rfl⟩
  show W p l e ({ frames := 1, cells := 0, slots := 0, locals := 23 } : Room) s m ([.ref h0, .ref h1]).toArray below meth c s.heap [] 0 0 (MQ below (va_Qv (fun (u : Nat) => u = 0) (fun (_ : Nat) (t : State) => ∃ (oa1_count : Int32), ∃ (oa1_over : Bool), ∃ (oa1_items : Nat → Int32), (Q oa1_count oa1_over oa1_items) ∧ va_P (dC, dI) vwCl [(h1, .inr (10, oX7 (.ref h2) oa1_count oa1_over a1_there)), (h2, .inl (k0, na1_items, .inl oa1_items)), (h0, .inr (11, oX8 (.ref h5) (.ref h6) (.ref h7) v_onlyInOne v_onlyInOther (.ref h8) v_stamp (.ref h9) (.ref h3) (.ref h4) v_pairCount v_parted)), (h3, .inl (k1, 3600, .inl v_cameFrom)), (h4, .inl (k2, 3600, .inl v_cameBy))] t.heap ∧ va_D A [(h1, .inr (10, oX7 (.ref h2) oa1_count oa1_over a1_there)), (h2, .inl (k0, na1_items, .inl oa1_items)), (h0, .inr (11, oX8 (.ref h5) (.ref h6) (.ref h7) v_onlyInOne v_onlyInOther (.ref h8) v_stamp (.ref h9) (.ref h3) (.ref h4) v_pairCount v_parted)), (h3, .inl (k1, 3600, .inl v_cameFrom)), (h4, .inl (k2, 3600, .inl v_cameBy))]) A) ([.ref h0, .ref h1]).toArray s 0 0 A) (F0 m 0 ls [])
  rw [← hQQ]
  unfold w_X8_writeParting at w
  refine lv_aload_n hx hb dX8_writeParting_0 rfl (lv_at hl 1 rfl) ?_
  have hPc_1 := hP.sub (ws' := [(h1, .inr (10, oX7 (.ref h2) a1_count a1_over a1_there))]) [0] rfl
  have hDc_1 := hD.sub (ws' := [(h1, .inr (10, oX7 (.ref h2) a1_count a1_over a1_there))]) [0] (by decide) rfl
  have hKc_1 := hK.sub (tys' := []) [] rfl
  have hFc_1 := va_free (wc := [(h1, .inr (10, oX7 (.ref h2) a1_count a1_over a1_there))]) hD hS hA [0] rfl
  refine va_callv (va_runV (As := []) (rest := []) ⟨hx, hb, hml, hown, ht⟩ (mt_X7_empty l dC dI h1 h2 a1_count a1_over a1_there _ w s.heap.size) (cwV 0 ht (goodV tw_1964 tw_1125 tw_1126 tw_237 gw_X7_empty) rfl rfl rfl (by decide +kernel) ⟨Nat.le_of_ble_eq_true rfl, Nat.le_of_ble_eq_true rfl⟩) ⟨fun a U g mk q => by obtain ⟨q0, q1, qP, qK, qD⟩ := q; exact ⟨q0, q1, qP, va_K.moved (u := U) (U := U.calling g mk a) (Vm.Alike.refl U.vm) qK, qD⟩, va_recv hKc_1 hPc_1 (ci := 10) (q0 := 0) rfl rfl, fun U hU hW => ⟨rfl, by rw [hU], by rw [hU]; exact hPc_1, va_K.moved hW.alike hKc_1, hDc_1.weaken (fun _ _ _ _ => trivial)⟩⟩ rfl rfl hl.1 rfl (lv_room (Nat.le_of_ble_eq_true rfl)) dX8_writeParting_1 ⟨Nat.le_of_ble_eq_true rfl, Nat.le_of_ble_eq_true rfl⟩) hS (fun q _ h => hFc_1 q h) hFc_1 (fun u_1 t_1 H_1 locs_1 ht_1 hvm_1 hw_1 hB_1 hz_1 hk_1 hS_1 => ?_)
  subst hw_1
  obtain ⟨r_1_0, r_1_1, w_1, hP1_1, hD1_1⟩ := hB_1
  rw [ht_1] at hP1_1
  obtain ⟨hP_1, hD_1⟩ := va_join (wr := [(h2, .inl (k0, na1_items, .inl a1_items)), (h0, .inr (11, oX8 (.ref h5) (.ref h6) (.ref h7) v_onlyInOne v_onlyInOther (.ref h8) v_stamp (.ref h9) (.ref h3) (.ref h4) v_pairCount v_parted)), (h3, .inl (k1, 3600, .inl v_cameFrom)), (h4, .inl (k2, 3600, .inl v_cameBy))]) (w1 := [(h1, .inr (10, oX7 (.ref h2) r_1_0 r_1_1 a1_there))]) hP hD [0] [1, 2, 3, 4] rfl rfl (by decide) (by decide) hk_1 hFc_1 hP1_1 hD1_1
  have hP_1 := hP_1.sub (ws' := [(h1, .inr (10, oX7 (.ref h2) r_1_0 r_1_1 a1_there)), (h2, .inl (k0, na1_items, .inl a1_items)), (h0, .inr (11, oX8 (.ref h5) (.ref h6) (.ref h7) v_onlyInOne v_onlyInOther (.ref h8) v_stamp (.ref h9) (.ref h3) (.ref h4) v_pairCount v_parted)), (h3, .inl (k1, 3600, .inl v_cameFrom)), (h4, .inl (k2, 3600, .inl v_cameBy))]) [4, 0, 1, 2, 3] rfl
  have hD_1 := hD_1.sub (ws' := [(h1, .inr (10, oX7 (.ref h2) r_1_0 r_1_1 a1_there)), (h2, .inl (k0, na1_items, .inl a1_items)), (h0, .inr (11, oX8 (.ref h5) (.ref h6) (.ref h7) v_onlyInOne v_onlyInOther (.ref h8) v_stamp (.ref h9) (.ref h3) (.ref h4) v_pairCount v_parted)), (h3, .inl (k1, 3600, .inl v_cameFrom)), (h4, .inl (k2, 3600, .inl v_cameBy))]) [4, 0, 1, 2, 3] (by decide) rfl
  clear hPc_1 hDc_1 hKc_1 hFc_1 hP1_1 hD1_1 hk_1 hz_1
  refine lv_aload_n hx hb dX8_writeParting_4 rfl (lv_at hl 0 rfl) ?_
  refine va_get (D := (dC, dI)) (ci := 11) (v := .int v_parted) (C := RX8) (T := TX8) (N := 12) hx hb ht inX8 hown hK hP_1 2 rfl rfl 11 (by decide) (ht _ tw_773) (fun _ h9 => h9) rfl dX8_writeParting_5 ?_
  refine lv_istore_n (lv' := [(2, .int v_parted), (0, .ref h0), (1, .ref h1)]) hx hb dX8_writeParting_8 rfl hl (by decide) rfl (fun ls_2 hl_2 => ?_)
  clear hl
  have k_9 : ∀ n_9 : Nat, ∀ (l2_9 : Int32) (a1_count_9 : Int32) (a1_over_9 : Bool) (a1_items_9 : Nat → Int32), ∀ (H_b9 : Heap) (locs_b9 : List Loc) (ls_b9 : Array Slot), w_X8_writeParting_9 na1_items v_cameFrom v_cameBy Q n_9 l2_9 a1_count_9 a1_over_9 a1_items_9 → va_P (dC, dI) vwCl [(h1, .inr (10, oX7 (.ref h2) a1_count_9 a1_over_9 a1_there)), (h2, .inl (k0, na1_items, .inl a1_items_9)), (h0, .inr (11, oX8 (.ref h5) (.ref h6) (.ref h7) v_onlyInOne v_onlyInOther (.ref h8) v_stamp (.ref h9) (.ref h3) (.ref h4) v_pairCount v_parted)), (h3, .inl (k1, 3600, .inl v_cameFrom)), (h4, .inl (k2, 3600, .inl v_cameBy))] H_b9 → va_D A [(h1, .inr (10, oX7 (.ref h2) a1_count_9 a1_over_9 a1_there)), (h2, .inl (k0, na1_items, .inl a1_items_9)), (h0, .inr (11, oX8 (.ref h5) (.ref h6) (.ref h7) v_onlyInOne v_onlyInOther (.ref h8) v_stamp (.ref h9) (.ref h3) (.ref h4) v_pairCount v_parted)), (h3, .inl (k1, 3600, .inl v_cameFrom)), (h4, .inl (k2, 3600, .inl v_cameBy))] → va_S A s.heap H_b9 locs_b9 → lv_has ls_b9 3 [(0, .ref h0), (1, .ref h1), (2, .int l2_9)] → W p l e ({ frames := 1, cells := 0, slots := 0, locals := 23 } : Room) s m ([.ref h0, .ref h1]).toArray below meth c H_b9 locs_b9 0 0 QQ (F0 m 9 ls_b9 []) := by
    intro n_9
    induction n_9 with
    | zero =>
      intro l2_9 a1_count_9 a1_over_9 a1_items_9 H_b9 locs_b9 ls_b9 w_b9 hP_b9 hD_b9 hS_b9 hl_b9
      exact False.elim (by unfold w_X8_writeParting_9 at w_b9; exact w_b9)
    | succ n_9 ih_9 =>
      intro l2_9 a1_count_9 a1_over_9 a1_items_9 H_b9 locs_b9 ls_b9 w_b9 hP_b9 hD_b9 hS_b9 hl_b9
      unfold w_X8_writeParting_9 at w_b9
      unfold w_X8_writeParting_9B at w_b9
      refine lv_iload_n hx hb dX8_writeParting_9 rfl (lv_at hl_b9 2 rfl) ?_
      have k_40 : ∀ (a1_count_40 : Int32) (a1_over_40 : Bool) (a1_items_40 : Nat → Int32), ∀ (H_b40 : Heap) (locs_b40 : List Loc) (ls_b40 : Array Slot), w_X8_writeParting_40 na1_items Q a1_count_40 a1_over_40 a1_items_40 → va_P (dC, dI) vwCl [(h1, .inr (10, oX7 (.ref h2) a1_count_40 a1_over_40 a1_there)), (h2, .inl (k0, na1_items, .inl a1_items_40)), (h0, .inr (11, oX8 (.ref h5) (.ref h6) (.ref h7) v_onlyInOne v_onlyInOther (.ref h8) v_stamp (.ref h9) (.ref h3) (.ref h4) v_pairCount v_parted)), (h3, .inl (k1, 3600, .inl v_cameFrom)), (h4, .inl (k2, 3600, .inl v_cameBy))] H_b40 → va_D A [(h1, .inr (10, oX7 (.ref h2) a1_count_40 a1_over_40 a1_there)), (h2, .inl (k0, na1_items, .inl a1_items_40)), (h0, .inr (11, oX8 (.ref h5) (.ref h6) (.ref h7) v_onlyInOne v_onlyInOther (.ref h8) v_stamp (.ref h9) (.ref h3) (.ref h4) v_pairCount v_parted)), (h3, .inl (k1, 3600, .inl v_cameFrom)), (h4, .inl (k2, 3600, .inl v_cameBy))] → va_S A s.heap H_b40 locs_b40 → lv_has ls_b40 3 [(1, .ref h1)] → W p l e ({ frames := 1, cells := 0, slots := 0, locals := 23 } : Room) s m ([.ref h0, .ref h1]).toArray below meth c H_b40 locs_b40 0 0 QQ (F0 m 40 ls_b40 []) := by
        intro a1_count_40 a1_over_40 a1_items_40 H_b40 locs_b40 ls_b40 w_b40 hP_b40 hD_b40 hS_b40 hl_b40
        unfold w_X8_writeParting_40 at w_b40
        refine lv_aload_n hx hb dX8_writeParting_40 rfl (lv_at hl_b40 0 rfl) ?_
        have hPc_3 := hP_b40.sub (ws' := [(h1, .inr (10, oX7 (.ref h2) a1_count_40 a1_over_40 a1_there)), (h2, .inl (k0, na1_items, .inl a1_items_40))]) [0, 1] rfl
        have hDc_3 := hD_b40.sub (ws' := [(h1, .inr (10, oX7 (.ref h2) a1_count_40 a1_over_40 a1_there)), (h2, .inl (k0, na1_items, .inl a1_items_40))]) [0, 1] (by decide) rfl
        have hKc_3 := hK.sub (tys' := [(k0, .int)]) [0] rfl
        have hFc_3 := va_free (wc := [(h1, .inr (10, oX7 (.ref h2) a1_count_40 a1_over_40 a1_there)), (h2, .inl (k0, na1_items, .inl a1_items_40))]) hD_b40 hS_b40 hA [0, 1] rfl
        refine va_callv (va_runV (As := []) (rest := []) ⟨hx, hb, hml, hown, ht⟩ (mt_X7_turnRound l dC dI h1 h2 k0 a1_count_40 a1_over_40 a1_there a1_items_40 na1_items _ w_b40 H_b40.size) (cwV 0 ht (goodV tw_1966 tw_1967 tw_1968 tw_237 gw_X7_turnRound) rfl rfl rfl (by decide +kernel) ⟨Nat.le_of_ble_eq_true rfl, Nat.le_of_ble_eq_true rfl⟩) ⟨fun a U g mk q => by obtain ⟨q0, q1, qP, qK, qD⟩ := q; exact ⟨q0, q1, qP, va_K.moved (u := U) (U := U.calling g mk a) (Vm.Alike.refl U.vm) qK, qD⟩, va_recv hKc_3 hPc_3 (ci := 10) (q0 := 0) rfl rfl, fun U hU hW => ⟨rfl, by rw [hU], by rw [hU]; exact hPc_3, va_K.moved hW.alike hKc_3, hDc_3.weaken (fun _ _ _ _ => trivial)⟩⟩ rfl rfl hl_b40.1 rfl (lv_room (Nat.le_of_ble_eq_true rfl)) dX8_writeParting_41 ⟨Nat.le_of_ble_eq_true rfl, Nat.le_of_ble_eq_true rfl⟩) hS_b40 (fun q _ h => hFc_3 q h) hFc_3 (fun u_3 t_3 H_3 locs_3 ht_3 hvm_3 hw_3 hB_3 hz_3 hk_3 hS_3 => ?_)
        subst hw_3
        obtain ⟨r_3_0, w_3, hP1_3, hD1_3⟩ := hB_3
        rw [ht_3] at hP1_3
        obtain ⟨hP_3, hD_3⟩ := va_join (wr := [(h0, .inr (11, oX8 (.ref h5) (.ref h6) (.ref h7) v_onlyInOne v_onlyInOther (.ref h8) v_stamp (.ref h9) (.ref h3) (.ref h4) v_pairCount v_parted)), (h3, .inl (k1, 3600, .inl v_cameFrom)), (h4, .inl (k2, 3600, .inl v_cameBy))]) (w1 := [(h1, .inr (10, oX7 (.ref h2) a1_count_40 a1_over_40 a1_there)), (h2, .inl (k0, na1_items, .inl r_3_0))]) hP_b40 hD_b40 [0, 1] [2, 3, 4] rfl rfl (by decide) (by decide) hk_3 hFc_3 hP1_3 hD1_3
        have hP_3 := hP_3.sub (ws' := [(h1, .inr (10, oX7 (.ref h2) a1_count_40 a1_over_40 a1_there)), (h2, .inl (k0, na1_items, .inl r_3_0)), (h0, .inr (11, oX8 (.ref h5) (.ref h6) (.ref h7) v_onlyInOne v_onlyInOther (.ref h8) v_stamp (.ref h9) (.ref h3) (.ref h4) v_pairCount v_parted)), (h3, .inl (k1, 3600, .inl v_cameFrom)), (h4, .inl (k2, 3600, .inl v_cameBy))]) [3, 4, 0, 1, 2] rfl
        have hD_3 := hD_3.sub (ws' := [(h1, .inr (10, oX7 (.ref h2) a1_count_40 a1_over_40 a1_there)), (h2, .inl (k0, na1_items, .inl r_3_0)), (h0, .inr (11, oX8 (.ref h5) (.ref h6) (.ref h7) v_onlyInOne v_onlyInOther (.ref h8) v_stamp (.ref h9) (.ref h3) (.ref h4) v_pairCount v_parted)), (h3, .inl (k1, 3600, .inl v_cameFrom)), (h4, .inl (k2, 3600, .inl v_cameBy))]) [3, 4, 0, 1, 2] (by decide) rfl
        clear hPc_3 hDc_3 hKc_3 hFc_3 hP1_3 hD1_3 hk_3 hz_3
        rw [hQQ]
        exact W.vret hx hb hr (fun t9 ht9 hW9 => ⟨⟨0, rfl, rfl, ⟨a1_count_40, a1_over_40, r_3_0, w_3, by rw [ht9]; exact hP_3, hD_3⟩⟩, hS_3.F ht9⟩) hS_3.2.2 dX8_writeParting_44
      refine lv_if_le (tgt := 40) hx hb dX8_writeParting_10 (by decide) (fun c_4 => ?_) (fun c_4 => ?_)
      · exact k_40 a1_count_9 a1_over_9 a1_items_9 _ _ _ (w_b9.1 c_4) hP_b9 hD_b9 hS_b9 (lv_sub hl_b9 [1] rfl)
      · refine lv_iload_n hx hb dX8_writeParting_13 rfl (lv_at hl_b9 2 rfl) ?_
        refine lv_sipush (v := 3600) hx hb dX8_writeParting_14 (by decide) ?_
        refine lv_icmp_ge (tgt := 40) hx hb dX8_writeParting_17 (by decide) (fun c_5 => ?_) (fun c_5 => ?_)
        · exact k_40 a1_count_9 a1_over_9 a1_items_9 _ _ _ ((w_b9.2 c_4).1 c_5) hP_b9 hD_b9 hS_b9 (lv_sub hl_b9 [1] rfl)
        · refine lv_aload_n hx hb dX8_writeParting_20 rfl (lv_at hl_b9 1 rfl) ?_
          refine lv_aload_n hx hb dX8_writeParting_21 rfl (lv_at hl_b9 0 rfl) ?_
          refine va_get (D := (dC, dI)) (ci := 11) (v := .ref h4) (C := RX8) (T := TX8) (N := 12) hx hb ht inX8 hown hK hP_b9 2 rfl rfl 9 (by decide) (ht _ tw_771) (fun _ h9 => h9) rfl dX8_writeParting_22 ?_
          refine lv_iload_n hx hb dX8_writeParting_25 rfl (lv_at hl_b9 2 rfl) ?_
          refine va_iald hx hb hK hP_b9 4 2 rfl rfl (i := l2_9) ((w_b9.2 c_4).2 c_5).1 dX8_writeParting_26 ?_
          refine lv_topi (fun x_6 ex_6 => ?_)
          have ex_6 : x_6 = v_cameBy l2_9.toNatClampNeg := ex_6
          have hPc_7 := hP_b9.sub (ws' := [(h1, .inr (10, oX7 (.ref h2) a1_count_9 a1_over_9 a1_there)), (h2, .inl (k0, na1_items, .inl a1_items_9))]) [0, 1] rfl
          have hDc_7 := hD_b9.sub (ws' := [(h1, .inr (10, oX7 (.ref h2) a1_count_9 a1_over_9 a1_there)), (h2, .inl (k0, na1_items, .inl a1_items_9))]) [0, 1] (by decide) rfl
          have hKc_7 := hK.sub (tys' := [(k0, .int)]) [0] rfl
          have hFc_7 := va_free (wc := [(h1, .inr (10, oX7 (.ref h2) a1_count_9 a1_over_9 a1_there)), (h2, .inl (k0, na1_items, .inl a1_items_9))]) hD_b9 hS_b9 hA [0, 1] rfl
          refine va_callv (va_runV (As := [.int x_6]) (rest := []) ⟨hx, hb, hml, hown, ht⟩ (mt_X7_add l dC dI h1 h2 k0 x_6 a1_count_9 a1_over_9 a1_there a1_items_9 na1_items _ ((((w_b9.2 c_4).2 c_5).2) x_6 ex_6) H_b9.size) (cwV 1 ht (goodV tw_1965 tw_866 tw_867 tw_237 gw_X7_add) rfl rfl rfl (by decide +kernel) ⟨Nat.le_of_ble_eq_true rfl, Nat.le_of_ble_eq_true rfl⟩) ⟨fun a U g mk q => by obtain ⟨q0, q1, qP, qK, qD⟩ := q; exact ⟨q0, q1, qP, va_K.moved (u := U) (U := U.calling g mk a) (Vm.Alike.refl U.vm) qK, qD⟩, va_recv hKc_7 hPc_7 (ci := 10) (q0 := 0) rfl rfl, fun U hU hW => ⟨rfl, by rw [hU], by rw [hU]; exact hPc_7, va_K.moved hW.alike hKc_7, hDc_7.weaken (fun _ _ _ _ => trivial)⟩⟩ rfl rfl hl_b9.1 rfl (lv_room (Nat.le_of_ble_eq_true rfl)) dX8_writeParting_27 ⟨Nat.le_of_ble_eq_true rfl, Nat.le_of_ble_eq_true rfl⟩) hS_b9 (fun q _ h => hFc_7 q h) hFc_7 (fun u_7 t_7 H_7 locs_7 ht_7 hvm_7 hw_7 hB_7 hz_7 hk_7 hS_7 => ?_)
          subst hw_7
          obtain ⟨r_7_0, r_7_1, r_7_2, w_7, hP1_7, hD1_7⟩ := hB_7
          rw [ht_7] at hP1_7
          obtain ⟨hP_7, hD_7⟩ := va_join (wr := [(h0, .inr (11, oX8 (.ref h5) (.ref h6) (.ref h7) v_onlyInOne v_onlyInOther (.ref h8) v_stamp (.ref h9) (.ref h3) (.ref h4) v_pairCount v_parted)), (h3, .inl (k1, 3600, .inl v_cameFrom)), (h4, .inl (k2, 3600, .inl v_cameBy))]) (w1 := [(h1, .inr (10, oX7 (.ref h2) r_7_0 r_7_1 a1_there)), (h2, .inl (k0, na1_items, .inl r_7_2))]) hP_b9 hD_b9 [0, 1] [2, 3, 4] rfl rfl (by decide) (by decide) hk_7 hFc_7 hP1_7 hD1_7
          have hP_7 := hP_7.sub (ws' := [(h1, .inr (10, oX7 (.ref h2) r_7_0 r_7_1 a1_there)), (h2, .inl (k0, na1_items, .inl r_7_2)), (h0, .inr (11, oX8 (.ref h5) (.ref h6) (.ref h7) v_onlyInOne v_onlyInOther (.ref h8) v_stamp (.ref h9) (.ref h3) (.ref h4) v_pairCount v_parted)), (h3, .inl (k1, 3600, .inl v_cameFrom)), (h4, .inl (k2, 3600, .inl v_cameBy))]) [3, 4, 0, 1, 2] rfl
          have hD_7 := hD_7.sub (ws' := [(h1, .inr (10, oX7 (.ref h2) r_7_0 r_7_1 a1_there)), (h2, .inl (k0, na1_items, .inl r_7_2)), (h0, .inr (11, oX8 (.ref h5) (.ref h6) (.ref h7) v_onlyInOne v_onlyInOther (.ref h8) v_stamp (.ref h9) (.ref h3) (.ref h4) v_pairCount v_parted)), (h3, .inl (k1, 3600, .inl v_cameFrom)), (h4, .inl (k2, 3600, .inl v_cameBy))]) [3, 4, 0, 1, 2] (by decide) rfl
          clear hPc_7 hDc_7 hKc_7 hFc_7 hP1_7 hD1_7 hk_7 hz_7
          refine lv_aload_n hx hb dX8_writeParting_30 rfl (lv_at hl_b9 0 rfl) ?_
          refine va_get (D := (dC, dI)) (ci := 11) (v := .ref h3) (C := RX8) (T := TX8) (N := 12) hx hb ht inX8 hown hK hP_7 2 rfl rfl 8 (by decide) (ht _ tw_770) (fun _ h9 => h9) rfl dX8_writeParting_31 ?_
          refine lv_iload_n hx hb dX8_writeParting_34 rfl (lv_at hl_b9 2 rfl) ?_
          refine va_iald hx hb hK hP_7 3 1 rfl rfl (i := l2_9) w_7.1 dX8_writeParting_35 ?_
          refine lv_topi (fun x_8 ex_8 => ?_)
          have ex_8 : x_8 = v_cameFrom l2_9.toNatClampNeg := ex_8
          refine lv_istore_n (lv' := [(2, .int x_8), (0, .ref h0), (1, .ref h1)]) hx hb dX8_writeParting_36 rfl hl_b9 (by decide) rfl (fun ls_9 hl_9 => ?_)
          clear hl_b9
          refine lv_goto (tgt := 9) hx hb dX8_writeParting_37 (by decide) ?_
          exact ih_9 x_8 r_7_0 r_7_1 r_7_2 _ _ _ (w_7.2 x_8 ex_8) hP_7 hD_7 hS_7 (lv_sub hl_9 [1, 2, 0] rfl)
  obtain ⟨n_10, w_10⟩ := w_1
  exact k_9 n_10 v_parted r_1_0 r_1_1 a1_items _ _ _ w_10 hP_1 hD_1 hS_1 (lv_sub hl_2 [1, 2, 0] rfl)
def w_X8_look_62 (Q : Bool → Bool → Int32 → Prop) (v_onlyInOne_62 : Bool) (v_onlyInOther_62 : Bool) (v_parted_62 : Int32) : Prop :=
  Q  v_onlyInOne_62 v_onlyInOther_62 v_parted_62
def w_X8_look_40 (p1 : Int32) (p2 : Int32) (p3 : Int32) (Q : Bool → Bool → Int32 → Prop) (s0_40 : Int32) (s1_40 : Int32) (v_onlyInOne_40 : Bool) (v_onlyInOther_40 : Bool) (v_parted_40 : Int32) : Prop :=
  ∀ x_3 : Int32, x_3 = s1_40 ||| s0_40 → (x_3 = 0 ∨ x_3 = 1) ∧ ∀ b_4 : Bool, x_3 = bz b_4 → ((p2 = p3) → w_X8_look_62 Q v_onlyInOne_40 b_4 v_parted_40) ∧ ((¬ p2 = p3) → ((¬ v_parted_40 = (-1)) → w_X8_look_62 Q v_onlyInOne_40 b_4 v_parted_40) ∧ ((v_parted_40 = (-1)) → w_X8_look_62 Q v_onlyInOne_40 b_4 p1))
def w_X8_look_39 (p1 : Int32) (p2 : Int32) (p3 : Int32) (Q : Bool → Bool → Int32 → Prop) (s0_39 : Int32) (v_onlyInOne_39 : Bool) (v_onlyInOther_39 : Bool) (v_parted_39 : Int32) : Prop :=
  w_X8_look_40 p1 p2 p3 Q 0 s0_39 v_onlyInOne_39 v_onlyInOther_39 v_parted_39
def w_X8_look_18 (p1 : Int32) (p2 : Int32) (p3 : Int32) (Q : Bool → Bool → Int32 → Prop) (s0_18 : Int32) (s1_18 : Int32) (v_onlyInOne_18 : Bool) (v_onlyInOther_18 : Bool) (v_parted_18 : Int32) : Prop :=
  ∀ x_1 : Int32, x_1 = s1_18 ||| s0_18 → (x_1 = 0 ∨ x_1 = 1) ∧ ∀ b_2 : Bool, x_1 = bz b_2 → ((p3 = 0) → w_X8_look_39 p1 p2 p3 Q (bz v_onlyInOther_18) b_2 v_onlyInOther_18 v_parted_18) ∧ ((¬ p3 = 0) → ((¬ p2 = 0) → w_X8_look_39 p1 p2 p3 Q (bz v_onlyInOther_18) b_2 v_onlyInOther_18 v_parted_18) ∧ ((p2 = 0) → w_X8_look_40 p1 p2 p3 Q 1 (bz v_onlyInOther_18) b_2 v_onlyInOther_18 v_parted_18))
def w_X8_look_17 (p1 : Int32) (p2 : Int32) (p3 : Int32) (Q : Bool → Bool → Int32 → Prop) (s0_17 : Int32) (v_onlyInOne_17 : Bool) (v_onlyInOther_17 : Bool) (v_parted_17 : Int32) : Prop :=
  w_X8_look_18 p1 p2 p3 Q 0 s0_17 v_onlyInOne_17 v_onlyInOther_17 v_parted_17
def w_X8_look (p1 : Int32) (p2 : Int32) (p3 : Int32) (v_onlyInOne : Bool) (v_onlyInOther : Bool) (v_parted : Int32) (Q : Bool → Bool → Int32 → Prop) : Prop :=
  ((p2 = 0) → w_X8_look_17 p1 p2 p3 Q (bz v_onlyInOne) v_onlyInOne v_onlyInOther v_parted) ∧ ((¬ p2 = 0) → ((¬ p3 = 0) → w_X8_look_17 p1 p2 p3 Q (bz v_onlyInOne) v_onlyInOne v_onlyInOther v_parted) ∧ ((p3 = 0) → w_X8_look_18 p1 p2 p3 Q 1 (bz v_onlyInOne) v_onlyInOne v_onlyInOther v_parted))
set_option maxHeartbeats 4000000 in
set_option maxRecDepth 100000 in
theorem mt_X8_look (l : Launch) (dC : Nat → ClassId) (dI : Nat → Nat → Nat) (h0 h1 h2 h3 h4 h5 h6 h7 : Nat) (p1 : Int32) (p2 : Int32) (p3 : Int32) (v_onlyInOne : Bool) (v_onlyInOther : Bool) (v_stamp : Int32) (v_pairCount : Int32) (v_parted : Int32) (Q : Bool → Bool → Int32 → Prop) (w : w_X8_look p1 p2 p3 v_onlyInOne v_onlyInOther v_parted Q) (sz : Nat) : Met l yX8_look (WS yX8_look cX8_look 4 none) ({ frames := 0, cells := 0, slots := 0, locals := 0 } : Room) (va_Pc [.ref h0, .int p1, .int p2, .int p3] (fun U => U.heap.size = sz ∧ va_P (dC, dI) vwCl [(h0, .inr (11, oX8 (.ref h1) (.ref h2) (.ref h3) v_onlyInOne v_onlyInOther (.ref h4) v_stamp (.ref h5) (.ref h6) (.ref h7) v_pairCount v_parted))] U.heap ∧ va_K (dC, dI) vwCl [] U ∧ va_D (fun _ => True) [(h0, .inr (11, oX8 (.ref h1) (.ref h2) (.ref h3) v_onlyInOne v_onlyInOther (.ref h4) v_stamp (.ref h5) (.ref h6) (.ref h7) v_pairCount v_parted))])) (va_Qv (fun (u : Nat) => u = 0) (fun (_ : Nat) (t : State) => ∃ (ov_onlyInOne : Bool), ∃ (ov_onlyInOther : Bool), ∃ (ov_parted : Int32), (Q ov_onlyInOne ov_onlyInOther ov_parted) ∧ va_P (dC, dI) vwCl [(h0, .inr (11, oX8 (.ref h1) (.ref h2) (.ref h3) ov_onlyInOne ov_onlyInOther (.ref h4) v_stamp (.ref h5) (.ref h6) (.ref h7) v_pairCount ov_parted))] t.heap ∧ va_D (va_A [(h0, .inr (11, oX8 (.ref h1) (.ref h2) (.ref h3) v_onlyInOne v_onlyInOther (.ref h4) v_stamp (.ref h5) (.ref h6) (.ref h7) v_pairCount v_parted))] sz) [(h0, .inr (11, oX8 (.ref h1) (.ref h2) (.ref h3) ov_onlyInOne ov_onlyInOther (.ref h4) v_stamp (.ref h5) (.ref h6) (.ref h7) v_pairCount ov_parted))]) (va_A [(h0, .inr (11, oX8 (.ref h1) (.ref h2) (.ref h3) v_onlyInOne v_onlyInOther (.ref h4) v_stamp (.ref h5) (.ref h6) (.ref h7) v_pairCount v_parted))] sz)) 0 0 (va_A [(h0, .inr (11, oX8 (.ref h1) (.ref h2) (.ref h3) v_onlyInOne v_onlyInOther (.ref h4) v_stamp (.ref h5) (.ref h6) (.ref h7) v_pairCount v_parted))] sz) := by
  refine Met.ofW (cc := cX8_look) (maxL := 4) (ret := none) (by decide) rfl ?_
  intro p e s m args below meth c s₁ B hml hv
  obtain ⟨rfl, hsz, hP, hK, hD0⟩ := hv
  have hx := B.exec
  have hb := B.bytes
  have hr := B.returns
  have hts := atoms_spec (ws := WS yX8_look cX8_look 4 none) B.pre
  have ht : ∀ w ∈ TW, w.before _ s = true := fun w h => hts w (List.mem_cons_of_mem _ h)
  have hown : s.vm.findClass "PatternWorkshop$Sets" = some m.cls := findClass_of_methodNamed B.named
  have hlocks := B.notSynchronized
  subst hsz
  have hD := hD0.self (sz := s.heap.size)
  generalize hAe : va_A [(h0, .inr (11, oX8 (.ref h1) (.ref h2) (.ref h3) v_onlyInOne v_onlyInOther (.ref h4) v_stamp (.ref h5) (.ref h6) (.ref h7) v_pairCount v_parted))] s.heap.size = A at hD ⊢
  have hA : ∀ q : Nat, s.heap.size ≤ q → A q := fun q h => by rw [← hAe]; exact Or.inr h
  have hS : va_S A s.heap s.heap [] := va_S.rf
  have hP : va_P (dC, dI) vwCl [(h0, .inr (11, oX8 (.ref h1) (.ref h2) (.ref h3) v_onlyInOne v_onlyInOther (.ref h4) v_stamp (.ref h5) (.ref h6) (.ref h7) v_pairCount v_parted))] s.heap := hP
  have hl := lv_entry ([.ref h0, .int p1, .int p2, .int p3]) (n := 4) (Nat.le_of_ble_eq_true rfl)
  rw [lg_entry_eq]
  generalize (lg_sl ([.ref h0, .int p1, .int p2, .int p3]) ++ List.replicate (4 - (lg_sl ([.ref h0, .int p1, .int p2, .int p3])).length) Slot.unset).toArray = ls at hl ⊢
  have hl : lv_has ls 4 [(0, .ref h0), (1, .int p1), (2, .int p2), (3, .int p3)] := hl
  clear hD0
  obtain ⟨QQ, hQQ⟩ : ∃ QQ, QQ = MQ below (va_Qv (fun (u : Nat) => u = 0) (fun (_ : Nat) (t : State) => ∃ (ov_onlyInOne : Bool), ∃ (ov_onlyInOther : Bool), ∃ (ov_parted : Int32), (Q ov_onlyInOne ov_onlyInOther ov_parted) ∧ va_P (dC, dI) vwCl [(h0, .inr (11, oX8 (.ref h1) (.ref h2) (.ref h3) ov_onlyInOne ov_onlyInOther (.ref h4) v_stamp (.ref h5) (.ref h6) (.ref h7) v_pairCount ov_parted))] t.heap ∧ va_D A [(h0, .inr (11, oX8 (.ref h1) (.ref h2) (.ref h3) ov_onlyInOne ov_onlyInOther (.ref h4) v_stamp (.ref h5) (.ref h6) (.ref h7) v_pairCount ov_parted))]) A) ([.ref h0, .int p1, .int p2, .int p3]).toArray s 0 0 A := ⟨_, rfl⟩
  show W p l e ({ frames := 0, cells := 0, slots := 0, locals := 0 } : Room) s m ([.ref h0, .int p1, .int p2, .int p3]).toArray below meth c s.heap [] 0 0 (MQ below (va_Qv (fun (u : Nat) => u = 0) (fun (_ : Nat) (t : State) => ∃ (ov_onlyInOne : Bool), ∃ (ov_onlyInOther : Bool), ∃ (ov_parted : Int32), (Q ov_onlyInOne ov_onlyInOther ov_parted) ∧ va_P (dC, dI) vwCl [(h0, .inr (11, oX8 (.ref h1) (.ref h2) (.ref h3) ov_onlyInOne ov_onlyInOther (.ref h4) v_stamp (.ref h5) (.ref h6) (.ref h7) v_pairCount ov_parted))] t.heap ∧ va_D A [(h0, .inr (11, oX8 (.ref h1) (.ref h2) (.ref h3) ov_onlyInOne ov_onlyInOther (.ref h4) v_stamp (.ref h5) (.ref h6) (.ref h7) v_pairCount ov_parted))]) A) ([.ref h0, .int p1, .int p2, .int p3]).toArray s 0 0 A) (F0 m 0 ls [])
  rw [← hQQ]
  unfold w_X8_look at w
  refine lv_aload_n hx hb dX8_look_0 rfl (lv_at hl 0 rfl) ?_
  refine lv_dup hx hb dX8_look_1 rfl ?_
  refine va_get (D := (dC, dI)) (ci := 11) (v := .int (bz v_onlyInOne)) (C := RX8) (T := TX8) (N := 12) hx hb ht inX8 hown hK hP 0 rfl rfl 3 (by decide) (ht _ tw_763) (fun _ h9 => h9) rfl dX8_look_2 ?_
  refine lv_iload_n hx hb dX8_look_5 rfl (lv_at hl 2 rfl) ?_
  have k_18 : ∀ (s0_18 : Int32) (s1_18 : Int32) (v_onlyInOne_18 : Bool) (v_onlyInOther_18 : Bool) (v_parted_18 : Int32), ∀ (H_b18 : Heap) (locs_b18 : List Loc) (ls_b18 : Array Slot), w_X8_look_18 p1 p2 p3 Q s0_18 s1_18 v_onlyInOne_18 v_onlyInOther_18 v_parted_18 → va_P (dC, dI) vwCl [(h0, .inr (11, oX8 (.ref h1) (.ref h2) (.ref h3) v_onlyInOne_18 v_onlyInOther_18 (.ref h4) v_stamp (.ref h5) (.ref h6) (.ref h7) v_pairCount v_parted_18))] H_b18 → va_D A [(h0, .inr (11, oX8 (.ref h1) (.ref h2) (.ref h3) v_onlyInOne_18 v_onlyInOther_18 (.ref h4) v_stamp (.ref h5) (.ref h6) (.ref h7) v_pairCount v_parted_18))] → va_S A s.heap H_b18 locs_b18 → lv_has ls_b18 4 [(0, .ref h0), (1, .int p1), (2, .int p2), (3, .int p3)] → W p l e ({ frames := 0, cells := 0, slots := 0, locals := 0 } : Room) s m ([.ref h0, .int p1, .int p2, .int p3]).toArray below meth c H_b18 locs_b18 0 0 QQ (F0 m 18 ls_b18 [.int s0_18, .int s1_18, .ref h0]) := by
    intro s0_18 s1_18 v_onlyInOne_18 v_onlyInOther_18 v_parted_18 H_b18 locs_b18 ls_b18 w_b18 hP_b18 hD_b18 hS_b18 hl_b18
    unfold w_X8_look_18 at w_b18
    refine lv_ior hx hb dX8_look_18 ?_
    refine lv_topi (fun x_1 ex_1 => ?_)
    have ex_1 : x_1 = s1_18 ||| s0_18 := ex_1
    obtain ⟨b_2, eb_2⟩ := bz_ex (w_b18 x_1 ex_1).1
    refine W.eq (g2 := F0 m 19 ls_b18 [.int (bz b_2), .ref h0]) (by rw [eb_2]) ?_
    refine va_put (D := (dC, dI)) (ci := 11) (v := .int (bz b_2)) (ty := .boolean) (C := RX8) (T := TX8) (N := 12) hx hb ht inX8 tyX8 tyX8_ok nmX8 hown hK hP_b18 hD_b18 hS_b18 0 rfl rfl 3 (by decide) (ht _ tw_763) (fun _ h9 => h9) rfl (by decide +kernel) (bz_nar _) (bz_fit _) (Nat.le_of_ble_eq_true rfl) dX8_look_19 (fun H_2 locs_2 hP_2 hD_2 hS_2 => ?_)
    have hP_2 : va_P (dC, dI) vwCl [(h0, .inr (11, oX8 (.ref h1) (.ref h2) (.ref h3) b_2 v_onlyInOther_18 (.ref h4) v_stamp (.ref h5) (.ref h6) (.ref h7) v_pairCount v_parted_18))] H_2 := hP_2
    have hD_2 : va_D A [(h0, .inr (11, oX8 (.ref h1) (.ref h2) (.ref h3) b_2 v_onlyInOther_18 (.ref h4) v_stamp (.ref h5) (.ref h6) (.ref h7) v_pairCount v_parted_18))] := hD_2
    refine lv_aload_n hx hb dX8_look_22 rfl (lv_at hl_b18 0 rfl) ?_
    refine lv_dup hx hb dX8_look_23 rfl ?_
    refine va_get (D := (dC, dI)) (ci := 11) (v := .int (bz v_onlyInOther_18)) (C := RX8) (T := TX8) (N := 12) hx hb ht inX8 hown hK hP_2 0 rfl rfl 4 (by decide) (ht _ tw_765) (fun _ h9 => h9) rfl dX8_look_24 ?_
    refine lv_iload_n hx hb dX8_look_27 rfl (lv_at hl_b18 3 rfl) ?_
    have k_40 : ∀ (s0_40 : Int32) (s1_40 : Int32) (v_onlyInOne_40 : Bool) (v_onlyInOther_40 : Bool) (v_parted_40 : Int32), ∀ (H_b40 : Heap) (locs_b40 : List Loc) (ls_b40 : Array Slot), w_X8_look_40 p1 p2 p3 Q s0_40 s1_40 v_onlyInOne_40 v_onlyInOther_40 v_parted_40 → va_P (dC, dI) vwCl [(h0, .inr (11, oX8 (.ref h1) (.ref h2) (.ref h3) v_onlyInOne_40 v_onlyInOther_40 (.ref h4) v_stamp (.ref h5) (.ref h6) (.ref h7) v_pairCount v_parted_40))] H_b40 → va_D A [(h0, .inr (11, oX8 (.ref h1) (.ref h2) (.ref h3) v_onlyInOne_40 v_onlyInOther_40 (.ref h4) v_stamp (.ref h5) (.ref h6) (.ref h7) v_pairCount v_parted_40))] → va_S A s.heap H_b40 locs_b40 → lv_has ls_b40 4 [(0, .ref h0), (1, .int p1), (2, .int p2), (3, .int p3)] → W p l e ({ frames := 0, cells := 0, slots := 0, locals := 0 } : Room) s m ([.ref h0, .int p1, .int p2, .int p3]).toArray below meth c H_b40 locs_b40 0 0 QQ (F0 m 40 ls_b40 [.int s0_40, .int s1_40, .ref h0]) := by
      intro s0_40 s1_40 v_onlyInOne_40 v_onlyInOther_40 v_parted_40 H_b40 locs_b40 ls_b40 w_b40 hP_b40 hD_b40 hS_b40 hl_b40
      unfold w_X8_look_40 at w_b40
      refine lv_ior hx hb dX8_look_40 ?_
      refine lv_topi (fun x_3 ex_3 => ?_)
      have ex_3 : x_3 = s1_40 ||| s0_40 := ex_3
      obtain ⟨b_4, eb_4⟩ := bz_ex (w_b40 x_3 ex_3).1
      refine W.eq (g2 := F0 m 41 ls_b40 [.int (bz b_4), .ref h0]) (by rw [eb_4]) ?_
      refine va_put (D := (dC, dI)) (ci := 11) (v := .int (bz b_4)) (ty := .boolean) (C := RX8) (T := TX8) (N := 12) hx hb ht inX8 tyX8 tyX8_ok nmX8 hown hK hP_b40 hD_b40 hS_b40 0 rfl rfl 4 (by decide) (ht _ tw_765) (fun _ h9 => h9) rfl (by decide +kernel) (bz_nar _) (bz_fit _) (Nat.le_of_ble_eq_true rfl) dX8_look_41 (fun H_4 locs_4 hP_4 hD_4 hS_4 => ?_)
      have hP_4 : va_P (dC, dI) vwCl [(h0, .inr (11, oX8 (.ref h1) (.ref h2) (.ref h3) v_onlyInOne_40 b_4 (.ref h4) v_stamp (.ref h5) (.ref h6) (.ref h7) v_pairCount v_parted_40))] H_4 := hP_4
      have hD_4 : va_D A [(h0, .inr (11, oX8 (.ref h1) (.ref h2) (.ref h3) v_onlyInOne_40 b_4 (.ref h4) v_stamp (.ref h5) (.ref h6) (.ref h7) v_pairCount v_parted_40))] := hD_4
      refine lv_iload_n hx hb dX8_look_44 rfl (lv_at hl_b40 2 rfl) ?_
      refine lv_iload_n hx hb dX8_look_45 rfl (lv_at hl_b40 3 rfl) ?_
      have k_62 : ∀ (v_onlyInOne_62 : Bool) (v_onlyInOther_62 : Bool) (v_parted_62 : Int32), ∀ (H_b62 : Heap) (locs_b62 : List Loc) (ls_b62 : Array Slot), w_X8_look_62 Q v_onlyInOne_62 v_onlyInOther_62 v_parted_62 → va_P (dC, dI) vwCl [(h0, .inr (11, oX8 (.ref h1) (.ref h2) (.ref h3) v_onlyInOne_62 v_onlyInOther_62 (.ref h4) v_stamp (.ref h5) (.ref h6) (.ref h7) v_pairCount v_parted_62))] H_b62 → va_D A [(h0, .inr (11, oX8 (.ref h1) (.ref h2) (.ref h3) v_onlyInOne_62 v_onlyInOther_62 (.ref h4) v_stamp (.ref h5) (.ref h6) (.ref h7) v_pairCount v_parted_62))] → va_S A s.heap H_b62 locs_b62 → lv_has ls_b62 4 [] → W p l e ({ frames := 0, cells := 0, slots := 0, locals := 0 } : Room) s m ([.ref h0, .int p1, .int p2, .int p3]).toArray below meth c H_b62 locs_b62 0 0 QQ (F0 m 62 ls_b62 []) := by
        intro v_onlyInOne_62 v_onlyInOther_62 v_parted_62 H_b62 locs_b62 ls_b62 w_b62 hP_b62 hD_b62 hS_b62 hl_b62
        unfold w_X8_look_62 at w_b62
        rw [hQQ]
        exact W.vret hx hb hr (fun t9 ht9 hW9 => ⟨⟨0, rfl, rfl, ⟨v_onlyInOne_62, v_onlyInOther_62, v_parted_62, w_b62, by rw [ht9]; exact hP_b62, hD_b62⟩⟩, hS_b62.F ht9⟩) hS_b62.2.2 dX8_look_62
      refine lv_icmp_eq (tgt := 62) hx hb dX8_look_46 (by decide) (fun c_5 => ?_) (fun c_5 => ?_)
      · exact k_62 v_onlyInOne_40 b_4 v_parted_40 _ _ _ ((((w_b40 x_3 ex_3).2) b_4 eb_4).1 c_5) hP_4 hD_4 hS_4 (lv_sub hl_b40 [] rfl)
      · refine lv_aload_n hx hb dX8_look_49 rfl (lv_at hl_b40 0 rfl) ?_
        refine va_get (D := (dC, dI)) (ci := 11) (v := .int v_parted_40) (C := RX8) (T := TX8) (N := 12) hx hb ht inX8 hown hK hP_4 0 rfl rfl 11 (by decide) (ht _ tw_773) (fun _ h9 => h9) rfl dX8_look_50 ?_
        refine lv_iconst (v := (-1)) hx hb dX8_look_53 (by decide) ?_
        refine lv_icmp_ne (tgt := 62) hx hb dX8_look_54 (by decide) (fun c_6 => ?_) (fun c_6 => ?_)
        · have w_7 := ((((w_b40 x_3 ex_3).2) b_4 eb_4).2 c_5).1 c_6
          exact k_62 v_onlyInOne_40 b_4 v_parted_40 _ _ _ w_7 hP_4 hD_4 hS_4 (lv_sub hl_b40 [] rfl)
        · refine lv_aload_n hx hb dX8_look_57 rfl (lv_at hl_b40 0 rfl) ?_
          refine lv_iload_n hx hb dX8_look_58 rfl (lv_at hl_b40 1 rfl) ?_
          refine va_put (D := (dC, dI)) (ci := 11) (v := .int p1) (ty := .int) (C := RX8) (T := TX8) (N := 12) hx hb ht inX8 tyX8 tyX8_ok nmX8 hown hK hP_4 hD_4 hS_4 0 rfl rfl 11 (by decide) (ht _ tw_773) (fun _ h9 => h9) rfl (by decide +kernel) rfl rfl (Nat.le_of_ble_eq_true rfl) dX8_look_59 (fun H_8 locs_8 hP_8 hD_8 hS_8 => ?_)
          have hP_8 : va_P (dC, dI) vwCl [(h0, .inr (11, oX8 (.ref h1) (.ref h2) (.ref h3) v_onlyInOne_40 b_4 (.ref h4) v_stamp (.ref h5) (.ref h6) (.ref h7) v_pairCount p1))] H_8 := hP_8
          have hD_8 : va_D A [(h0, .inr (11, oX8 (.ref h1) (.ref h2) (.ref h3) v_onlyInOne_40 b_4 (.ref h4) v_stamp (.ref h5) (.ref h6) (.ref h7) v_pairCount p1))] := hD_8
          have w_9 := ((((w_b40 x_3 ex_3).2) b_4 eb_4).2 c_5).2 c_6
          exact k_62 v_onlyInOne_40 b_4 p1 _ _ _ w_9 hP_8 hD_8 hS_8 (lv_sub hl_b40 [] rfl)
    have k_39 : ∀ (s0_39 : Int32) (v_onlyInOne_39 : Bool) (v_onlyInOther_39 : Bool) (v_parted_39 : Int32), ∀ (H_b39 : Heap) (locs_b39 : List Loc) (ls_b39 : Array Slot), w_X8_look_39 p1 p2 p3 Q s0_39 v_onlyInOne_39 v_onlyInOther_39 v_parted_39 → va_P (dC, dI) vwCl [(h0, .inr (11, oX8 (.ref h1) (.ref h2) (.ref h3) v_onlyInOne_39 v_onlyInOther_39 (.ref h4) v_stamp (.ref h5) (.ref h6) (.ref h7) v_pairCount v_parted_39))] H_b39 → va_D A [(h0, .inr (11, oX8 (.ref h1) (.ref h2) (.ref h3) v_onlyInOne_39 v_onlyInOther_39 (.ref h4) v_stamp (.ref h5) (.ref h6) (.ref h7) v_pairCount v_parted_39))] → va_S A s.heap H_b39 locs_b39 → lv_has ls_b39 4 [(0, .ref h0), (1, .int p1), (2, .int p2), (3, .int p3)] → W p l e ({ frames := 0, cells := 0, slots := 0, locals := 0 } : Room) s m ([.ref h0, .int p1, .int p2, .int p3]).toArray below meth c H_b39 locs_b39 0 0 QQ (F0 m 39 ls_b39 [.int s0_39, .ref h0]) := by
      intro s0_39 v_onlyInOne_39 v_onlyInOther_39 v_parted_39 H_b39 locs_b39 ls_b39 w_b39 hP_b39 hD_b39 hS_b39 hl_b39
      unfold w_X8_look_39 at w_b39
      refine lv_iconst (v := 0) hx hb dX8_look_39 (by decide) ?_
      exact k_40 0 s0_39 v_onlyInOne_39 v_onlyInOther_39 v_parted_39 _ _ _ w_b39 hP_b39 hD_b39 hS_b39 (lv_sub hl_b39 [0, 1, 2, 3] rfl)
    refine lv_if_eq (tgt := 39) hx hb dX8_look_28 (by decide) (fun c_10 => ?_) (fun c_10 => ?_)
    · exact k_39 (bz v_onlyInOther_18) b_2 v_onlyInOther_18 v_parted_18 _ _ _ ((((w_b18 x_1 ex_1).2) b_2 eb_2).1 c_10) hP_2 hD_2 hS_2 (lv_sub hl_b18 [0, 1, 2, 3] rfl)
    · refine lv_iload_n hx hb dX8_look_31 rfl (lv_at hl_b18 2 rfl) ?_
      refine lv_if_ne (tgt := 39) hx hb dX8_look_32 (by decide) (fun c_11 => ?_) (fun c_11 => ?_)
      · have w_12 := ((((w_b18 x_1 ex_1).2) b_2 eb_2).2 c_10).1 c_11
        exact k_39 (bz v_onlyInOther_18) b_2 v_onlyInOther_18 v_parted_18 _ _ _ w_12 hP_2 hD_2 hS_2 (lv_sub hl_b18 [0, 1, 2, 3] rfl)
      · refine lv_iconst (v := 1) hx hb dX8_look_35 (by decide) ?_
        refine lv_goto (tgt := 40) hx hb dX8_look_36 (by decide) ?_
        have w_13 := ((((w_b18 x_1 ex_1).2) b_2 eb_2).2 c_10).2 c_11
        exact k_40 1 (bz v_onlyInOther_18) b_2 v_onlyInOther_18 v_parted_18 _ _ _ w_13 hP_2 hD_2 hS_2 (lv_sub hl_b18 [0, 1, 2, 3] rfl)
  have k_17 : ∀ (s0_17 : Int32) (v_onlyInOne_17 : Bool) (v_onlyInOther_17 : Bool) (v_parted_17 : Int32), ∀ (H_b17 : Heap) (locs_b17 : List Loc) (ls_b17 : Array Slot), w_X8_look_17 p1 p2 p3 Q s0_17 v_onlyInOne_17 v_onlyInOther_17 v_parted_17 → va_P (dC, dI) vwCl [(h0, .inr (11, oX8 (.ref h1) (.ref h2) (.ref h3) v_onlyInOne_17 v_onlyInOther_17 (.ref h4) v_stamp (.ref h5) (.ref h6) (.ref h7) v_pairCount v_parted_17))] H_b17 → va_D A [(h0, .inr (11, oX8 (.ref h1) (.ref h2) (.ref h3) v_onlyInOne_17 v_onlyInOther_17 (.ref h4) v_stamp (.ref h5) (.ref h6) (.ref h7) v_pairCount v_parted_17))] → va_S A s.heap H_b17 locs_b17 → lv_has ls_b17 4 [(0, .ref h0), (1, .int p1), (2, .int p2), (3, .int p3)] → W p l e ({ frames := 0, cells := 0, slots := 0, locals := 0 } : Room) s m ([.ref h0, .int p1, .int p2, .int p3]).toArray below meth c H_b17 locs_b17 0 0 QQ (F0 m 17 ls_b17 [.int s0_17, .ref h0]) := by
    intro s0_17 v_onlyInOne_17 v_onlyInOther_17 v_parted_17 H_b17 locs_b17 ls_b17 w_b17 hP_b17 hD_b17 hS_b17 hl_b17
    unfold w_X8_look_17 at w_b17
    refine lv_iconst (v := 0) hx hb dX8_look_17 (by decide) ?_
    exact k_18 0 s0_17 v_onlyInOne_17 v_onlyInOther_17 v_parted_17 _ _ _ w_b17 hP_b17 hD_b17 hS_b17 (lv_sub hl_b17 [0, 1, 2, 3] rfl)
  refine lv_if_eq (tgt := 17) hx hb dX8_look_6 (by decide) (fun c_14 => ?_) (fun c_14 => ?_)
  · exact k_17 (bz v_onlyInOne) v_onlyInOne v_onlyInOther v_parted _ _ _ (w.1 c_14) hP hD hS (lv_sub hl [0, 1, 2, 3] rfl)
  · refine lv_iload_n hx hb dX8_look_9 rfl (lv_at hl 3 rfl) ?_
    refine lv_if_ne (tgt := 17) hx hb dX8_look_10 (by decide) (fun c_15 => ?_) (fun c_15 => ?_)
    · exact k_17 (bz v_onlyInOne) v_onlyInOne v_onlyInOther v_parted _ _ _ ((w.2 c_14).1 c_15) hP hD hS (lv_sub hl [0, 1, 2, 3] rfl)
    · refine lv_iconst (v := 1) hx hb dX8_look_13 (by decide) ?_
      refine lv_goto (tgt := 18) hx hb dX8_look_14 (by decide) ?_
      exact k_18 1 (bz v_onlyInOne) v_onlyInOne v_onlyInOther v_parted _ _ _ ((w.2 c_14).2 c_15) hP hD hS (lv_sub hl [0, 1, 2, 3] rfl)
def w_X8_meet_34 (Q : Int32 → (Nat → Int32) → (Nat → Int32) → (Nat → Int32) → (Nat → Int32) → Prop) (v_pairCount_34 : Int32) (v_met_34 : Nat → Int32) (v_pairs_34 : Nat → Int32) (v_cameFrom_34 : Nat → Int32) (v_cameBy_34 : Nat → Int32) : Prop :=
  Q  v_pairCount_34 v_met_34 v_pairs_34 v_cameFrom_34 v_cameBy_34
def w_X8_meet (p1 : Int32) (p2 : Int32) (p3 : Int32) (v_stamp : Int32) (v_pairCount : Int32) (v_met : Nat → Int32) (v_pairs : Nat → Int32) (v_cameFrom : Nat → Int32) (v_cameBy : Nat → Int32) (Q : Int32 → (Nat → Int32) → (Nat → Int32) → (Nat → Int32) → (Nat → Int32) → Prop) : Prop :=
  ((p1 < 0) → w_X8_meet_34 Q v_pairCount v_met v_pairs v_cameFrom v_cameBy) ∧ ((¬ p1 < 0) → ((3600 ≤ p1) → w_X8_meet_34 Q v_pairCount v_met v_pairs v_cameFrom v_cameBy) ∧ ((¬ 3600 ≤ p1) → vp_in p1 3600 ∧ ∀ x_3 : Int32, x_3 = v_met p1.toNatClampNeg → ((x_3 = v_stamp) → w_X8_meet_34 Q v_pairCount v_met v_pairs v_cameFrom v_cameBy) ∧ ((¬ x_3 = v_stamp) → ((v_pairCount < 3600) → vp_in p1 3600 ∧ ∀ g_7 : Nat → Int32, g_7 = upd v_met p1.toNatClampNeg v_stamp → vp_in v_pairCount 3600 ∧ ∀ g_8 : Nat → Int32, g_8 = upd v_pairs v_pairCount.toNatClampNeg p1 → vp_in v_pairCount 3600 ∧ ∀ g_9 : Nat → Int32, g_9 = upd v_cameFrom v_pairCount.toNatClampNeg p2 → vp_in v_pairCount 3600 ∧ ∀ g_11 : Nat → Int32, g_11 = upd v_cameBy v_pairCount.toNatClampNeg p3 → ∀ x_12 : Int32, x_12 = v_pairCount + (1 : Int32) → Q  x_12 g_7 g_8 g_9 g_11) ∧ ((¬ v_pairCount < 3600) → w_X8_meet_34 Q v_pairCount v_met v_pairs v_cameFrom v_cameBy))))
set_option maxHeartbeats 4000000 in
set_option maxRecDepth 100000 in
theorem mt_X8_meet (l : Launch) (dC : Nat → ClassId) (dI : Nat → Nat → Nat) (h0 h1 h2 h3 h4 h5 h6 h7 : Nat) (k0 k1 k2 k3 : ClassId) (p1 : Int32) (p2 : Int32) (p3 : Int32) (v_onlyInOne : Bool) (v_onlyInOther : Bool) (v_stamp : Int32) (v_pairCount : Int32) (v_parted : Int32) (v_met : Nat → Int32) (v_pairs : Nat → Int32) (v_cameFrom : Nat → Int32) (v_cameBy : Nat → Int32) (Q : Int32 → (Nat → Int32) → (Nat → Int32) → (Nat → Int32) → (Nat → Int32) → Prop) (w : w_X8_meet p1 p2 p3 v_stamp v_pairCount v_met v_pairs v_cameFrom v_cameBy Q) (sz : Nat) : Met l yX8_meet (WS yX8_meet cX8_meet 4 none) ({ frames := 0, cells := 0, slots := 0, locals := 0 } : Room) (va_Pc [.ref h0, .int p1, .int p2, .int p3] (fun U => U.heap.size = sz ∧ va_P (dC, dI) vwCl [(h0, .inr (11, oX8 (.ref h5) (.ref h6) (.ref h7) v_onlyInOne v_onlyInOther (.ref h1) v_stamp (.ref h2) (.ref h3) (.ref h4) v_pairCount v_parted)), (h1, .inl (k0, 3600, .inl v_met)), (h2, .inl (k1, 3600, .inl v_pairs)), (h3, .inl (k2, 3600, .inl v_cameFrom)), (h4, .inl (k3, 3600, .inl v_cameBy))] U.heap ∧ va_K (dC, dI) vwCl [(k0, .int), (k1, .int), (k2, .int), (k3, .int)] U ∧ va_D (fun _ => True) [(h0, .inr (11, oX8 (.ref h5) (.ref h6) (.ref h7) v_onlyInOne v_onlyInOther (.ref h1) v_stamp (.ref h2) (.ref h3) (.ref h4) v_pairCount v_parted)), (h1, .inl (k0, 3600, .inl v_met)), (h2, .inl (k1, 3600, .inl v_pairs)), (h3, .inl (k2, 3600, .inl v_cameFrom)), (h4, .inl (k3, 3600, .inl v_cameBy))])) (va_Qv (fun (u : Nat) => u = 0) (fun (_ : Nat) (t : State) => ∃ (ov_pairCount : Int32), ∃ (ov_met : Nat → Int32), ∃ (ov_pairs : Nat → Int32), ∃ (ov_cameFrom : Nat → Int32), ∃ (ov_cameBy : Nat → Int32), (Q ov_pairCount ov_met ov_pairs ov_cameFrom ov_cameBy) ∧ va_P (dC, dI) vwCl [(h0, .inr (11, oX8 (.ref h5) (.ref h6) (.ref h7) v_onlyInOne v_onlyInOther (.ref h1) v_stamp (.ref h2) (.ref h3) (.ref h4) ov_pairCount v_parted)), (h1, .inl (k0, 3600, .inl ov_met)), (h2, .inl (k1, 3600, .inl ov_pairs)), (h3, .inl (k2, 3600, .inl ov_cameFrom)), (h4, .inl (k3, 3600, .inl ov_cameBy))] t.heap ∧ va_D (va_A [(h0, .inr (11, oX8 (.ref h5) (.ref h6) (.ref h7) v_onlyInOne v_onlyInOther (.ref h1) v_stamp (.ref h2) (.ref h3) (.ref h4) v_pairCount v_parted)), (h1, .inl (k0, 3600, .inl v_met)), (h2, .inl (k1, 3600, .inl v_pairs)), (h3, .inl (k2, 3600, .inl v_cameFrom)), (h4, .inl (k3, 3600, .inl v_cameBy))] sz) [(h0, .inr (11, oX8 (.ref h5) (.ref h6) (.ref h7) v_onlyInOne v_onlyInOther (.ref h1) v_stamp (.ref h2) (.ref h3) (.ref h4) ov_pairCount v_parted)), (h1, .inl (k0, 3600, .inl ov_met)), (h2, .inl (k1, 3600, .inl ov_pairs)), (h3, .inl (k2, 3600, .inl ov_cameFrom)), (h4, .inl (k3, 3600, .inl ov_cameBy))]) (va_A [(h0, .inr (11, oX8 (.ref h5) (.ref h6) (.ref h7) v_onlyInOne v_onlyInOther (.ref h1) v_stamp (.ref h2) (.ref h3) (.ref h4) v_pairCount v_parted)), (h1, .inl (k0, 3600, .inl v_met)), (h2, .inl (k1, 3600, .inl v_pairs)), (h3, .inl (k2, 3600, .inl v_cameFrom)), (h4, .inl (k3, 3600, .inl v_cameBy))] sz)) 0 0 (va_A [(h0, .inr (11, oX8 (.ref h5) (.ref h6) (.ref h7) v_onlyInOne v_onlyInOther (.ref h1) v_stamp (.ref h2) (.ref h3) (.ref h4) v_pairCount v_parted)), (h1, .inl (k0, 3600, .inl v_met)), (h2, .inl (k1, 3600, .inl v_pairs)), (h3, .inl (k2, 3600, .inl v_cameFrom)), (h4, .inl (k3, 3600, .inl v_cameBy))] sz) := by
  refine Met.ofW (cc := cX8_meet) (maxL := 4) (ret := none) (by decide) rfl ?_
  intro p e s m args below meth c s₁ B hml hv
  obtain ⟨rfl, hsz, hP, hK, hD0⟩ := hv
  have hx := B.exec
  have hb := B.bytes
  have hr := B.returns
  have hts := atoms_spec (ws := WS yX8_meet cX8_meet 4 none) B.pre
  have ht : ∀ w ∈ TW, w.before _ s = true := fun w h => hts w (List.mem_cons_of_mem _ h)
  have hown : s.vm.findClass "PatternWorkshop$Sets" = some m.cls := findClass_of_methodNamed B.named
  have hlocks := B.notSynchronized
  subst hsz
  have hD := hD0.self (sz := s.heap.size)
  generalize hAe : va_A [(h0, .inr (11, oX8 (.ref h5) (.ref h6) (.ref h7) v_onlyInOne v_onlyInOther (.ref h1) v_stamp (.ref h2) (.ref h3) (.ref h4) v_pairCount v_parted)), (h1, .inl (k0, 3600, .inl v_met)), (h2, .inl (k1, 3600, .inl v_pairs)), (h3, .inl (k2, 3600, .inl v_cameFrom)), (h4, .inl (k3, 3600, .inl v_cameBy))] s.heap.size = A at hD ⊢
  have hA : ∀ q : Nat, s.heap.size ≤ q → A q := fun q h => by rw [← hAe]; exact Or.inr h
  have hS : va_S A s.heap s.heap [] := va_S.rf
  have hP : va_P (dC, dI) vwCl [(h0, .inr (11, oX8 (.ref h5) (.ref h6) (.ref h7) v_onlyInOne v_onlyInOther (.ref h1) v_stamp (.ref h2) (.ref h3) (.ref h4) v_pairCount v_parted)), (h1, .inl (k0, 3600, .inl v_met)), (h2, .inl (k1, 3600, .inl v_pairs)), (h3, .inl (k2, 3600, .inl v_cameFrom)), (h4, .inl (k3, 3600, .inl v_cameBy))] s.heap := hP
  have hl := lv_entry ([.ref h0, .int p1, .int p2, .int p3]) (n := 4) (Nat.le_of_ble_eq_true rfl)
  rw [lg_entry_eq]
  generalize (lg_sl ([.ref h0, .int p1, .int p2, .int p3]) ++ List.replicate (4 - (lg_sl ([.ref h0, .int p1, .int p2, .int p3])).length) Slot.unset).toArray = ls at hl ⊢
  have hl : lv_has ls 4 [(0, .ref h0), (1, .int p1), (2, .int p2), (3, .int p3)] := hl
  clear hD0
  obtain ⟨QQ, hQQ⟩ : ∃ QQ, QQ = MQ below (va_Qv (fun (u : Nat) => u = 0) (fun (_ : Nat) (t : State) => ∃ (ov_pairCount : Int32), ∃ (ov_met : Nat → Int32), ∃ (ov_pairs : Nat → Int32), ∃ (ov_cameFrom : Nat → Int32), ∃ (ov_cameBy : Nat → Int32), (Q ov_pairCount ov_met ov_pairs ov_cameFrom ov_cameBy) ∧ va_P (dC, dI) vwCl [(h0, .inr (11, oX8 (.ref h5) (.ref h6) (.ref h7) v_onlyInOne v_onlyInOther (.ref h1) v_stamp (.ref h2) (.ref h3) (.ref h4) ov_pairCount v_parted)), (h1, .inl (k0, 3600, .inl ov_met)), (h2, .inl (k1, 3600, .inl ov_pairs)), (h3, .inl (k2, 3600, .inl ov_cameFrom)), (h4, .inl (k3, 3600, .inl ov_cameBy))] t.heap ∧ va_D A [(h0, .inr (11, oX8 (.ref h5) (.ref h6) (.ref h7) v_onlyInOne v_onlyInOther (.ref h1) v_stamp (.ref h2) (.ref h3) (.ref h4) ov_pairCount v_parted)), (h1, .inl (k0, 3600, .inl ov_met)), (h2, .inl (k1, 3600, .inl ov_pairs)), (h3, .inl (k2, 3600, .inl ov_cameFrom)), (h4, .inl (k3, 3600, .inl ov_cameBy))]) A) ([.ref h0, .int p1, .int p2, .int p3]).toArray s 0 0 A := ⟨_, rfl⟩
  show W p l e ({ frames := 0, cells := 0, slots := 0, locals := 0 } : Room) s m ([.ref h0, .int p1, .int p2, .int p3]).toArray below meth c s.heap [] 0 0 (MQ below (va_Qv (fun (u : Nat) => u = 0) (fun (_ : Nat) (t : State) => ∃ (ov_pairCount : Int32), ∃ (ov_met : Nat → Int32), ∃ (ov_pairs : Nat → Int32), ∃ (ov_cameFrom : Nat → Int32), ∃ (ov_cameBy : Nat → Int32), (Q ov_pairCount ov_met ov_pairs ov_cameFrom ov_cameBy) ∧ va_P (dC, dI) vwCl [(h0, .inr (11, oX8 (.ref h5) (.ref h6) (.ref h7) v_onlyInOne v_onlyInOther (.ref h1) v_stamp (.ref h2) (.ref h3) (.ref h4) ov_pairCount v_parted)), (h1, .inl (k0, 3600, .inl ov_met)), (h2, .inl (k1, 3600, .inl ov_pairs)), (h3, .inl (k2, 3600, .inl ov_cameFrom)), (h4, .inl (k3, 3600, .inl ov_cameBy))] t.heap ∧ va_D A [(h0, .inr (11, oX8 (.ref h5) (.ref h6) (.ref h7) v_onlyInOne v_onlyInOther (.ref h1) v_stamp (.ref h2) (.ref h3) (.ref h4) ov_pairCount v_parted)), (h1, .inl (k0, 3600, .inl ov_met)), (h2, .inl (k1, 3600, .inl ov_pairs)), (h3, .inl (k2, 3600, .inl ov_cameFrom)), (h4, .inl (k3, 3600, .inl ov_cameBy))]) A) ([.ref h0, .int p1, .int p2, .int p3]).toArray s 0 0 A) (F0 m 0 ls [])
  rw [← hQQ]
  unfold w_X8_meet at w
  refine lv_iload_n hx hb dX8_meet_0 rfl (lv_at hl 1 rfl) ?_
  have k_34 : ∀ (v_pairCount_34 : Int32) (v_met_34 : Nat → Int32) (v_pairs_34 : Nat → Int32) (v_cameFrom_34 : Nat → Int32) (v_cameBy_34 : Nat → Int32), ∀ (H_b34 : Heap) (locs_b34 : List Loc) (ls_b34 : Array Slot), w_X8_meet_34 Q v_pairCount_34 v_met_34 v_pairs_34 v_cameFrom_34 v_cameBy_34 → va_P (dC, dI) vwCl [(h0, .inr (11, oX8 (.ref h5) (.ref h6) (.ref h7) v_onlyInOne v_onlyInOther (.ref h1) v_stamp (.ref h2) (.ref h3) (.ref h4) v_pairCount_34 v_parted)), (h1, .inl (k0, 3600, .inl v_met_34)), (h2, .inl (k1, 3600, .inl v_pairs_34)), (h3, .inl (k2, 3600, .inl v_cameFrom_34)), (h4, .inl (k3, 3600, .inl v_cameBy_34))] H_b34 → va_D A [(h0, .inr (11, oX8 (.ref h5) (.ref h6) (.ref h7) v_onlyInOne v_onlyInOther (.ref h1) v_stamp (.ref h2) (.ref h3) (.ref h4) v_pairCount_34 v_parted)), (h1, .inl (k0, 3600, .inl v_met_34)), (h2, .inl (k1, 3600, .inl v_pairs_34)), (h3, .inl (k2, 3600, .inl v_cameFrom_34)), (h4, .inl (k3, 3600, .inl v_cameBy_34))] → va_S A s.heap H_b34 locs_b34 → lv_has ls_b34 4 [] → W p l e ({ frames := 0, cells := 0, slots := 0, locals := 0 } : Room) s m ([.ref h0, .int p1, .int p2, .int p3]).toArray below meth c H_b34 locs_b34 0 0 QQ (F0 m 34 ls_b34 []) := by
    intro v_pairCount_34 v_met_34 v_pairs_34 v_cameFrom_34 v_cameBy_34 H_b34 locs_b34 ls_b34 w_b34 hP_b34 hD_b34 hS_b34 hl_b34
    unfold w_X8_meet_34 at w_b34
    rw [hQQ]
    exact W.vret hx hb hr (fun t9 ht9 hW9 => ⟨⟨0, rfl, rfl, ⟨v_pairCount_34, v_met_34, v_pairs_34, v_cameFrom_34, v_cameBy_34, w_b34, by rw [ht9]; exact hP_b34, hD_b34⟩⟩, hS_b34.F ht9⟩) hS_b34.2.2 dX8_meet_34
  refine lv_if_lt (tgt := 34) hx hb dX8_meet_1 (by decide) (fun c_1 => ?_) (fun c_1 => ?_)
  · exact k_34 v_pairCount v_met v_pairs v_cameFrom v_cameBy _ _ _ (w.1 c_1) hP hD hS (lv_sub hl [] rfl)
  · refine lv_iload_n hx hb dX8_meet_4 rfl (lv_at hl 1 rfl) ?_
    refine lv_sipush (v := 3600) hx hb dX8_meet_5 (by decide) ?_
    refine lv_icmp_ge (tgt := 34) hx hb dX8_meet_8 (by decide) (fun c_2 => ?_) (fun c_2 => ?_)
    · exact k_34 v_pairCount v_met v_pairs v_cameFrom v_cameBy _ _ _ ((w.2 c_1).1 c_2) hP hD hS (lv_sub hl [] rfl)
    · refine lv_aload_n hx hb dX8_meet_11 rfl (lv_at hl 0 rfl) ?_
      refine va_get (D := (dC, dI)) (ci := 11) (v := .ref h1) (C := RX8) (T := TX8) (N := 12) hx hb ht inX8 hown hK hP 0 rfl rfl 5 (by decide) (ht _ tw_767) (fun _ h9 => h9) rfl dX8_meet_12 ?_
      refine lv_iload_n hx hb dX8_meet_15 rfl (lv_at hl 1 rfl) ?_
      refine va_iald hx hb hK hP 1 0 rfl rfl (i := p1) ((w.2 c_1).2 c_2).1 dX8_meet_16 ?_
      refine lv_topi (fun x_3 ex_3 => ?_)
      have ex_3 : x_3 = v_met p1.toNatClampNeg := ex_3
      refine lv_aload_n hx hb dX8_meet_17 rfl (lv_at hl 0 rfl) ?_
      refine va_get (D := (dC, dI)) (ci := 11) (v := .int v_stamp) (C := RX8) (T := TX8) (N := 12) hx hb ht inX8 hown hK hP 0 rfl rfl 6 (by decide) (ht _ tw_768) (fun _ h9 => h9) rfl dX8_meet_18 ?_
      refine lv_icmp_eq (tgt := 34) hx hb dX8_meet_21 (by decide) (fun c_4 => ?_) (fun c_4 => ?_)
      · exact k_34 v_pairCount v_met v_pairs v_cameFrom v_cameBy _ _ _ (((((w.2 c_1).2 c_2).2) x_3 ex_3).1 c_4) hP hD hS (lv_sub hl [] rfl)
      · refine lv_aload_n hx hb dX8_meet_24 rfl (lv_at hl 0 rfl) ?_
        refine va_get (D := (dC, dI)) (ci := 11) (v := .int v_pairCount) (C := RX8) (T := TX8) (N := 12) hx hb ht inX8 hown hK hP 0 rfl rfl 10 (by decide) (ht _ tw_772) (fun _ h9 => h9) rfl dX8_meet_25 ?_
        refine lv_sipush (v := 3600) hx hb dX8_meet_28 (by decide) ?_
        refine lv_icmp_lt (tgt := 35) hx hb dX8_meet_31 (by decide) (fun c_5 => ?_) (fun c_5 => ?_)
        · refine lv_aload_n hx hb dX8_meet_35 rfl (lv_at hl 0 rfl) ?_
          refine va_get (D := (dC, dI)) (ci := 11) (v := .ref h1) (C := RX8) (T := TX8) (N := 12) hx hb ht inX8 hown hK hP 0 rfl rfl 5 (by decide) (ht _ tw_767) (fun _ h9 => h9) rfl dX8_meet_36 ?_
          refine lv_iload_n hx hb dX8_meet_39 rfl (lv_at hl 1 rfl) ?_
          refine lv_aload_n hx hb dX8_meet_40 rfl (lv_at hl 0 rfl) ?_
          refine va_get (D := (dC, dI)) (ci := 11) (v := .int v_stamp) (C := RX8) (T := TX8) (N := 12) hx hb ht inX8 hown hK hP 0 rfl rfl 6 (by decide) (ht _ tw_768) (fun _ h9 => h9) rfl dX8_meet_41 ?_
          have w_6 := (((((w.2 c_1).2 c_2).2) x_3 ex_3).2 c_4).1 c_5
          refine va_iast hx hb hK hP hD hS 1 0 rfl rfl (i := p1) w_6.1 dX8_meet_44 (fun H_7 locs_7 hP_7 hD_7 hS_7 => ?_)
          obtain ⟨g_7, hg_7⟩ : ∃ g : Nat → Int32, g = upd v_met p1.toNatClampNeg v_stamp := ⟨_, rfl⟩
          have hP_7 : va_P (dC, dI) vwCl [(h0, .inr (11, oX8 (.ref h5) (.ref h6) (.ref h7) v_onlyInOne v_onlyInOther (.ref h1) v_stamp (.ref h2) (.ref h3) (.ref h4) v_pairCount v_parted)), (h1, .inl (k0, 3600, .inl g_7)), (h2, .inl (k1, 3600, .inl v_pairs)), (h3, .inl (k2, 3600, .inl v_cameFrom)), (h4, .inl (k3, 3600, .inl v_cameBy))] H_7 := by rw [hg_7]; exact hP_7
          have hD_7 : va_D A [(h0, .inr (11, oX8 (.ref h5) (.ref h6) (.ref h7) v_onlyInOne v_onlyInOther (.ref h1) v_stamp (.ref h2) (.ref h3) (.ref h4) v_pairCount v_parted)), (h1, .inl (k0, 3600, .inl g_7)), (h2, .inl (k1, 3600, .inl v_pairs)), (h3, .inl (k2, 3600, .inl v_cameFrom)), (h4, .inl (k3, 3600, .inl v_cameBy))] := by rw [hg_7]; exact hD_7
          refine lv_aload_n hx hb dX8_meet_45 rfl (lv_at hl 0 rfl) ?_
          refine va_get (D := (dC, dI)) (ci := 11) (v := .ref h2) (C := RX8) (T := TX8) (N := 12) hx hb ht inX8 hown hK hP_7 0 rfl rfl 7 (by decide) (ht _ tw_769) (fun _ h9 => h9) rfl dX8_meet_46 ?_
          refine lv_aload_n hx hb dX8_meet_49 rfl (lv_at hl 0 rfl) ?_
          refine va_get (D := (dC, dI)) (ci := 11) (v := .int v_pairCount) (C := RX8) (T := TX8) (N := 12) hx hb ht inX8 hown hK hP_7 0 rfl rfl 10 (by decide) (ht _ tw_772) (fun _ h9 => h9) rfl dX8_meet_50 ?_
          refine lv_iload_n hx hb dX8_meet_53 rfl (lv_at hl 1 rfl) ?_
          refine va_iast hx hb hK hP_7 hD_7 hS_7 2 1 rfl rfl (i := v_pairCount) (w_6.2 g_7 hg_7).1 dX8_meet_54 (fun H_8 locs_8 hP_8 hD_8 hS_8 => ?_)
          obtain ⟨g_8, hg_8⟩ : ∃ g : Nat → Int32, g = upd v_pairs v_pairCount.toNatClampNeg p1 := ⟨_, rfl⟩
          have hP_8 : va_P (dC, dI) vwCl [(h0, .inr (11, oX8 (.ref h5) (.ref h6) (.ref h7) v_onlyInOne v_onlyInOther (.ref h1) v_stamp (.ref h2) (.ref h3) (.ref h4) v_pairCount v_parted)), (h1, .inl (k0, 3600, .inl g_7)), (h2, .inl (k1, 3600, .inl g_8)), (h3, .inl (k2, 3600, .inl v_cameFrom)), (h4, .inl (k3, 3600, .inl v_cameBy))] H_8 := by rw [hg_8]; exact hP_8
          have hD_8 : va_D A [(h0, .inr (11, oX8 (.ref h5) (.ref h6) (.ref h7) v_onlyInOne v_onlyInOther (.ref h1) v_stamp (.ref h2) (.ref h3) (.ref h4) v_pairCount v_parted)), (h1, .inl (k0, 3600, .inl g_7)), (h2, .inl (k1, 3600, .inl g_8)), (h3, .inl (k2, 3600, .inl v_cameFrom)), (h4, .inl (k3, 3600, .inl v_cameBy))] := by rw [hg_8]; exact hD_8
          refine lv_aload_n hx hb dX8_meet_55 rfl (lv_at hl 0 rfl) ?_
          refine va_get (D := (dC, dI)) (ci := 11) (v := .ref h3) (C := RX8) (T := TX8) (N := 12) hx hb ht inX8 hown hK hP_8 0 rfl rfl 8 (by decide) (ht _ tw_770) (fun _ h9 => h9) rfl dX8_meet_56 ?_
          refine lv_aload_n hx hb dX8_meet_59 rfl (lv_at hl 0 rfl) ?_
          refine va_get (D := (dC, dI)) (ci := 11) (v := .int v_pairCount) (C := RX8) (T := TX8) (N := 12) hx hb ht inX8 hown hK hP_8 0 rfl rfl 10 (by decide) (ht _ tw_772) (fun _ h9 => h9) rfl dX8_meet_60 ?_
          refine lv_iload_n hx hb dX8_meet_63 rfl (lv_at hl 2 rfl) ?_
          refine va_iast hx hb hK hP_8 hD_8 hS_8 3 2 rfl rfl (i := v_pairCount) (((w_6.2 g_7 hg_7).2) g_8 hg_8).1 dX8_meet_64 (fun H_9 locs_9 hP_9 hD_9 hS_9 => ?_)
          obtain ⟨g_9, hg_9⟩ : ∃ g : Nat → Int32, g = upd v_cameFrom v_pairCount.toNatClampNeg p2 := ⟨_, rfl⟩
          have hP_9 : va_P (dC, dI) vwCl [(h0, .inr (11, oX8 (.ref h5) (.ref h6) (.ref h7) v_onlyInOne v_onlyInOther (.ref h1) v_stamp (.ref h2) (.ref h3) (.ref h4) v_pairCount v_parted)), (h1, .inl (k0, 3600, .inl g_7)), (h2, .inl (k1, 3600, .inl g_8)), (h3, .inl (k2, 3600, .inl g_9)), (h4, .inl (k3, 3600, .inl v_cameBy))] H_9 := by rw [hg_9]; exact hP_9
          have hD_9 : va_D A [(h0, .inr (11, oX8 (.ref h5) (.ref h6) (.ref h7) v_onlyInOne v_onlyInOther (.ref h1) v_stamp (.ref h2) (.ref h3) (.ref h4) v_pairCount v_parted)), (h1, .inl (k0, 3600, .inl g_7)), (h2, .inl (k1, 3600, .inl g_8)), (h3, .inl (k2, 3600, .inl g_9)), (h4, .inl (k3, 3600, .inl v_cameBy))] := by rw [hg_9]; exact hD_9
          refine lv_aload_n hx hb dX8_meet_65 rfl (lv_at hl 0 rfl) ?_
          refine va_get (D := (dC, dI)) (ci := 11) (v := .ref h4) (C := RX8) (T := TX8) (N := 12) hx hb ht inX8 hown hK hP_9 0 rfl rfl 9 (by decide) (ht _ tw_771) (fun _ h9 => h9) rfl dX8_meet_66 ?_
          refine lv_aload_n hx hb dX8_meet_69 rfl (lv_at hl 0 rfl) ?_
          refine va_get (D := (dC, dI)) (ci := 11) (v := .int v_pairCount) (C := RX8) (T := TX8) (N := 12) hx hb ht inX8 hown hK hP_9 0 rfl rfl 10 (by decide) (ht _ tw_772) (fun _ h9 => h9) rfl dX8_meet_70 ?_
          refine lv_iload_n hx hb dX8_meet_73 rfl (lv_at hl 3 rfl) ?_
          have w_10 := ((((w_6.2 g_7 hg_7).2) g_8 hg_8).2) g_9 hg_9
          refine va_iast hx hb hK hP_9 hD_9 hS_9 4 3 rfl rfl (i := v_pairCount) w_10.1 dX8_meet_74 (fun H_11 locs_11 hP_11 hD_11 hS_11 => ?_)
          obtain ⟨g_11, hg_11⟩ : ∃ g : Nat → Int32, g = upd v_cameBy v_pairCount.toNatClampNeg p3 := ⟨_, rfl⟩
          have hP_11 : va_P (dC, dI) vwCl [(h0, .inr (11, oX8 (.ref h5) (.ref h6) (.ref h7) v_onlyInOne v_onlyInOther (.ref h1) v_stamp (.ref h2) (.ref h3) (.ref h4) v_pairCount v_parted)), (h1, .inl (k0, 3600, .inl g_7)), (h2, .inl (k1, 3600, .inl g_8)), (h3, .inl (k2, 3600, .inl g_9)), (h4, .inl (k3, 3600, .inl g_11))] H_11 := by rw [hg_11]; exact hP_11
          have hD_11 : va_D A [(h0, .inr (11, oX8 (.ref h5) (.ref h6) (.ref h7) v_onlyInOne v_onlyInOther (.ref h1) v_stamp (.ref h2) (.ref h3) (.ref h4) v_pairCount v_parted)), (h1, .inl (k0, 3600, .inl g_7)), (h2, .inl (k1, 3600, .inl g_8)), (h3, .inl (k2, 3600, .inl g_9)), (h4, .inl (k3, 3600, .inl g_11))] := by rw [hg_11]; exact hD_11
          refine lv_aload_n hx hb dX8_meet_75 rfl (lv_at hl 0 rfl) ?_
          refine lv_dup hx hb dX8_meet_76 rfl ?_
          refine va_get (D := (dC, dI)) (ci := 11) (v := .int v_pairCount) (C := RX8) (T := TX8) (N := 12) hx hb ht inX8 hown hK hP_11 0 rfl rfl 10 (by decide) (ht _ tw_772) (fun _ h9 => h9) rfl dX8_meet_77 ?_
          refine lv_iconst (v := 1) hx hb dX8_meet_80 (by decide) ?_
          refine lv_iadd hx hb dX8_meet_81 ?_
          refine lv_topi (fun x_12 ex_12 => ?_)
          have ex_12 : x_12 = v_pairCount + (1 : Int32) := ex_12
          refine va_put (D := (dC, dI)) (ci := 11) (v := .int x_12) (ty := .int) (C := RX8) (T := TX8) (N := 12) hx hb ht inX8 tyX8 tyX8_ok nmX8 hown hK hP_11 hD_11 hS_11 0 rfl rfl 10 (by decide) (ht _ tw_772) (fun _ h9 => h9) rfl (by decide +kernel) rfl rfl (Nat.le_of_ble_eq_true rfl) dX8_meet_82 (fun H_13 locs_13 hP_13 hD_13 hS_13 => ?_)
          have hP_13 : va_P (dC, dI) vwCl [(h0, .inr (11, oX8 (.ref h5) (.ref h6) (.ref h7) v_onlyInOne v_onlyInOther (.ref h1) v_stamp (.ref h2) (.ref h3) (.ref h4) x_12 v_parted)), (h1, .inl (k0, 3600, .inl g_7)), (h2, .inl (k1, 3600, .inl g_8)), (h3, .inl (k2, 3600, .inl g_9)), (h4, .inl (k3, 3600, .inl g_11))] H_13 := hP_13
          have hD_13 : va_D A [(h0, .inr (11, oX8 (.ref h5) (.ref h6) (.ref h7) v_onlyInOne v_onlyInOther (.ref h1) v_stamp (.ref h2) (.ref h3) (.ref h4) x_12 v_parted)), (h1, .inl (k0, 3600, .inl g_7)), (h2, .inl (k1, 3600, .inl g_8)), (h3, .inl (k2, 3600, .inl g_9)), (h4, .inl (k3, 3600, .inl g_11))] := hD_13
          rw [hQQ]
          exact W.vret hx hb hr (fun t9 ht9 hW9 => ⟨⟨0, rfl, rfl, ⟨x_12, g_7, g_8, g_9, g_11, w_10.2 g_11 hg_11 x_12 ex_12, by rw [ht9]; exact hP_13, hD_13⟩⟩, hS_13.F ht9⟩) hS_13.2.2 dX8_meet_85
        · have w_14 := (((((w.2 c_1).2 c_2).2) x_3 ex_3).2 c_4).2 c_5
          exact k_34 v_pairCount v_met v_pairs v_cameFrom v_cameBy _ _ _ w_14 hP hD hS (lv_sub hl [] rfl)
