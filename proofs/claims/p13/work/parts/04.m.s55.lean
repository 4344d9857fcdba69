def w_X12_feed_83B (p2 : Int64) (Q : Int32 → Int32 → Int32 → (Nat → Int32) → Prop) (K83 : Int32 → Int32 → (Nat → Int32) → Prop) (v_thrown_83 : Int32) (l5_83 : Int32) (v_taped_83 : Int32) (v_tape_83 : Nat → Int32) : Prop :=
  ((l5_83 < 0) → Q v_taped_83 v_thrown_83 v_taped_83 v_tape_83) ∧ ((¬ l5_83 < 0) → ∀ x_11 : Int32, x_11 = (8 : Int32) * l5_83 → ∀ y_12 : Int64, y_12 = p2 >>> (x_11.toInt64 &&& 63) → ∀ y_13 : Int64, y_13 = y_12 &&& (255 : Int64) → ∀ x_14 : Int32, x_14 = y_13.toInt32 → vp_in v_taped_83 200 ∧ ∀ g_16 : Nat → Int32, g_16 = upd v_tape_83 v_taped_83.toNatClampNeg x_14 → ∀ x_17 : Int32, x_17 = v_taped_83 + (1 : Int32) → ∀ x_19 : Int32, x_19 = l5_83 + (-1) → K83 x_19 x_17 g_16)
def w_X12_feed_83 (p2 : Int64) (Q : Int32 → Int32 → Int32 → (Nat → Int32) → Prop) (v_thrown_83 : Int32) : Nat → Int32 → Int32 → (Nat → Int32) → Prop
  | 0, _, _, _ => False
  | n9 + 1, l5_83, v_taped_83, v_tape_83 => w_X12_feed_83B p2 Q (w_X12_feed_83 p2 Q v_thrown_83 n9) v_thrown_83 l5_83 v_taped_83 v_tape_83
def w_X12_feed_55 (p1 : Int32) (p2 : Int64) (Q : Int32 → Int32 → Int32 → (Nat → Int32) → Prop) (l4_55 : Int32) (v_thrown_55 : Int32) (v_taped_55 : Int32) (v_tape_55 : Nat → Int32) : Prop :=
  ((¬ l4_55 = 0) → ∀ x_6 : Int32, x_6 = v_taped_55 + p1 → ((x_6 ≤ 200) → ∀ x_8 : Int32, x_8 = p1 - (1 : Int32) → ∃ k9 : Nat, w_X12_feed_83 p2 Q v_thrown_55 k9 x_8 v_taped_55 v_tape_55) ∧ ((¬ x_6 ≤ 200) → Q (-9) v_thrown_55 v_taped_55 v_tape_55)) ∧ ((l4_55 = 0) → Q (-4) v_thrown_55 v_taped_55 v_tape_55)
def w_X12_feed_17B (p1 : Int32) (p2 : Int64) (Q : Int32 → Int32 → Int32 → (Nat → Int32) → Prop) (K17 : Int32 → Int32 → Prop) (v_thrown_17 : Int32) (v_taped_17 : Int32) (v_tape_17 : Nat → Int32) (l4_17 : Int32) (l5_17 : Int32) : Prop :=
  ((p1 ≤ l5_17) → w_X12_feed_55 p1 p2 Q l4_17 v_thrown_17 v_taped_17 v_tape_17) ∧ ((¬ p1 ≤ l5_17) → ((l4_17 = 0) → w_X12_feed_55 p1 p2 Q l4_17 v_thrown_17 v_taped_17 v_tape_17) ∧ ((¬ l4_17 = 0) → ∀ x_23 : Int32, x_23 = (8 : Int32) * l5_17 → ∀ y_24 : Int64, y_24 = p2 >>> (x_23.toInt64 &&& 63) → ∀ y_25 : Int64, y_25 = y_24 &&& (255 : Int64) → ∀ x_26 : Int32, x_26 = y_25.toInt32 → w_X12_in x_26 32 126 (fun r_27 => ∀ x_30 : Int32, x_30 = l5_17 + 1 → K17 r_27 x_30)))
def w_X12_feed_17 (p1 : Int32) (p2 : Int64) (Q : Int32 → Int32 → Int32 → (Nat → Int32) → Prop) (v_thrown_17 : Int32) (v_taped_17 : Int32) (v_tape_17 : Nat → Int32) : Nat → Int32 → Int32 → Prop
  | 0, _, _ => False
  | n9 + 1, l4_17, l5_17 => w_X12_feed_17B p1 p2 Q (w_X12_feed_17 p1 p2 Q v_thrown_17 v_taped_17 v_tape_17 n9) v_thrown_17 v_taped_17 v_tape_17 l4_17 l5_17
def w_X12_feed (p1 : Int32) (p2 : Int64) (v_taped : Int32) (v_tape : Nat → Int32) (Q : Int32 → Int32 → Int32 → (Nat → Int32) → Prop) : Prop :=
  w_X12_in p1 1 8 (fun r_2 => ∃ k9 : Nat, w_X12_feed_17 p1 p2 Q 0 v_taped v_tape k9 r_2 0)
set_option maxHeartbeats 4000000 in
set_option maxRecDepth 100000 in
theorem mt_X12_feed (l : Launch) (dC : Nat → ClassId) (dI : Nat → Nat → Nat) (h0 : Nat) (hh : Nat → Nat) (k0 : ClassId) (p1 : Int32) (p2 : Int64) (v_thrown : Int32) (v_finding : Int32) (v_taped : Int32) (v_faultPlace : Int32) (v_newNodes : Int32) (v_newParts : Int32) (v_fault : Int32) (v_faultAt : Int32) (v_at : Int32) (v_items : Int32) (v_newCaptures : Int32) (v_depth : Int32) (v_memberValue : Int32) (v_memberEnd : Int32) (v_loopLeast : Int32) (v_loopMost : Int32) (v_printedMany : Int32) (v_opened : Int32) (v_outMany : Int32) (v_outNumbers : Bool) (v_boundMany : Int32) (v_acts : Int32) (v_labels : Int32) (v_tasks : Int32) (v_trail : Int32) (v_choices : Int32) (v_now : Int32) (v_spot : Int32) (v_slotNow : Int32) (v_textNow : Int32) (v_longNow : Int32) (v_steps : Int32) (v_limit : Int32) (v_isOver : Bool) (v_stamp : Int32) (v_isGoing : Bool) (v_goSlot : Int32) (v_goSubject : Int32) (v_goFrom : Int32) (v_goSteps : Int32) (v_hasSpan : Bool) (v_spanCaptures : Int32) (v_findMany : Int32) (v_madeMany : Int32) (v_eaters : Int32) (v_reached : Int64) (v_reachesEnd : Bool) (v_pairs : Int32) (v_sorts : Int32) (v_tape : Nat → Int32) (Q : Int32 → Int32 → Int32 → (Nat → Int32) → Prop) (w : w_X12_feed p1 p2 v_taped v_tape Q) (sz : Nat) : Met l yX12_feed (WS yX12_feed cX12_feed 6 (some (.int))) ({ frames := 1, cells := 0, slots := 0, locals := 22 } : Room) (va_Pc [.ref h0, .int p1, .long p2] (fun U => U.heap.size = sz ∧ va_P (dC, dI) vwCl [(h0, .inr (15, oX12 hh v_thrown v_finding v_taped v_faultPlace v_newNodes v_newParts v_fault v_faultAt v_at v_items v_newCaptures v_depth v_memberValue v_memberEnd v_loopLeast v_loopMost v_printedMany v_opened v_outMany v_outNumbers v_boundMany v_acts v_labels v_tasks v_trail v_choices v_now v_spot v_slotNow v_textNow v_longNow v_steps v_limit v_isOver v_stamp v_isGoing v_goSlot v_goSubject v_goFrom v_goSteps v_hasSpan v_spanCaptures v_findMany v_madeMany v_eaters v_reached v_reachesEnd v_pairs v_sorts)), ((hh 2), .inl (k0, 200, .inl v_tape))] U.heap ∧ va_K (dC, dI) vwCl [(k0, .int)] U ∧ va_D (fun _ => True) [(h0, .inr (15, oX12 hh v_thrown v_finding v_taped v_faultPlace v_newNodes v_newParts v_fault v_faultAt v_at v_items v_newCaptures v_depth v_memberValue v_memberEnd v_loopLeast v_loopMost v_printedMany v_opened v_outMany v_outNumbers v_boundMany v_acts v_labels v_tasks v_trail v_choices v_now v_spot v_slotNow v_textNow v_longNow v_steps v_limit v_isOver v_stamp v_isGoing v_goSlot v_goSubject v_goFrom v_goSteps v_hasSpan v_spanCaptures v_findMany v_madeMany v_eaters v_reached v_reachesEnd v_pairs v_sorts)), ((hh 2), .inl (k0, 200, .inl v_tape))])) (va_Qi (fun (r u : Int32) => r = u) (fun (u : Int32) (t : State) => ∃ (ov_thrown : Int32), ∃ (ov_taped : Int32), ∃ (ov_tape : Nat → Int32), (Q u ov_thrown ov_taped ov_tape) ∧ va_P (dC, dI) vwCl [(h0, .inr (15, oX12 hh ov_thrown v_finding ov_taped v_faultPlace v_newNodes v_newParts v_fault v_faultAt v_at v_items v_newCaptures v_depth v_memberValue v_memberEnd v_loopLeast v_loopMost v_printedMany v_opened v_outMany v_outNumbers v_boundMany v_acts v_labels v_tasks v_trail v_choices v_now v_spot v_slotNow v_textNow v_longNow v_steps v_limit v_isOver v_stamp v_isGoing v_goSlot v_goSubject v_goFrom v_goSteps v_hasSpan v_spanCaptures v_findMany v_madeMany v_eaters v_reached v_reachesEnd v_pairs v_sorts)), ((hh 2), .inl (k0, 200, .inl ov_tape))] t.heap ∧ va_D (va_A [(h0, .inr (15, oX12 hh v_thrown v_finding v_taped v_faultPlace v_newNodes v_newParts v_fault v_faultAt v_at v_items v_newCaptures v_depth v_memberValue v_memberEnd v_loopLeast v_loopMost v_printedMany v_opened v_outMany v_outNumbers v_boundMany v_acts v_labels v_tasks v_trail v_choices v_now v_spot v_slotNow v_textNow v_longNow v_steps v_limit v_isOver v_stamp v_isGoing v_goSlot v_goSubject v_goFrom v_goSteps v_hasSpan v_spanCaptures v_findMany v_madeMany v_eaters v_reached v_reachesEnd v_pairs v_sorts)), ((hh 2), .inl (k0, 200, .inl v_tape))] sz) [(h0, .inr (15, oX12 hh ov_thrown v_finding ov_taped v_faultPlace v_newNodes v_newParts v_fault v_faultAt v_at v_items v_newCaptures v_depth v_memberValue v_memberEnd v_loopLeast v_loopMost v_printedMany v_opened v_outMany v_outNumbers v_boundMany v_acts v_labels v_tasks v_trail v_choices v_now v_spot v_slotNow v_textNow v_longNow v_steps v_limit v_isOver v_stamp v_isGoing v_goSlot v_goSubject v_goFrom v_goSteps v_hasSpan v_spanCaptures v_findMany v_madeMany v_eaters v_reached v_reachesEnd v_pairs v_sorts)), ((hh 2), .inl (k0, 200, .inl ov_tape))]) (va_A [(h0, .inr (15, oX12 hh v_thrown v_finding v_taped v_faultPlace v_newNodes v_newParts v_fault v_faultAt v_at v_items v_newCaptures v_depth v_memberValue v_memberEnd v_loopLeast v_loopMost v_printedMany v_opened v_outMany v_outNumbers v_boundMany v_acts v_labels v_tasks v_trail v_choices v_now v_spot v_slotNow v_textNow v_longNow v_steps v_limit v_isOver v_stamp v_isGoing v_goSlot v_goSubject v_goFrom v_goSteps v_hasSpan v_spanCaptures v_findMany v_madeMany v_eaters v_reached v_reachesEnd v_pairs v_sorts)), ((hh 2), .inl (k0, 200, .inl v_tape))] sz)) 0 0 (va_A [(h0, .inr (15, oX12 hh v_thrown v_finding v_taped v_faultPlace v_newNodes v_newParts v_fault v_faultAt v_at v_items v_newCaptures v_depth v_memberValue v_memberEnd v_loopLeast v_loopMost v_printedMany v_opened v_outMany v_outNumbers v_boundMany v_acts v_labels v_tasks v_trail v_choices v_now v_spot v_slotNow v_textNow v_longNow v_steps v_limit v_isOver v_stamp v_isGoing v_goSlot v_goSubject v_goFrom v_goSteps v_hasSpan v_spanCaptures v_findMany v_madeMany v_eaters v_reached v_reachesEnd v_pairs v_sorts)), ((hh 2), .inl (k0, 200, .inl v_tape))] sz) := by
  refine Met.ofW (cc := cX12_feed) (maxL := 6) (ret := (some (.int))) (by decide) rfl ?_
  intro p e s m args below meth c s₁ B hml hv
  obtain ⟨rfl, hsz, hP, hK, hD0⟩ := hv
  have hx := B.exec
  have hb := B.bytes
  have hr := B.returns
  have hts := atoms_spec (ws := WS yX12_feed cX12_feed 6 (some (.int))) B.pre
  have ht : ∀ w ∈ TW, w.before _ s = true := fun w h => hts w (List.mem_cons_of_mem _ h)
  have hown : s.vm.findClass "PatternWorkshopModel" = some m.cls := findClass_of_methodNamed B.named
  have hlocks := B.notSynchronized
  subst hsz
  have hD := hD0.self (sz := s.heap.size)
  generalize hAe : va_A [(h0, .inr (15, oX12 hh v_thrown v_finding v_taped v_faultPlace v_newNodes v_newParts v_fault v_faultAt v_at v_items v_newCaptures v_depth v_memberValue v_memberEnd v_loopLeast v_loopMost v_printedMany v_opened v_outMany v_outNumbers v_boundMany v_acts v_labels v_tasks v_trail v_choices v_now v_spot v_slotNow v_textNow v_longNow v_steps v_limit v_isOver v_stamp v_isGoing v_goSlot v_goSubject v_goFrom v_goSteps v_hasSpan v_spanCaptures v_findMany v_madeMany v_eaters v_reached v_reachesEnd v_pairs v_sorts)), ((hh 2), .inl (k0, 200, .inl v_tape))] s.heap.size = A at hD ⊢
  have hA : ∀ q : Nat, s.heap.size ≤ q → A q := fun q h => by rw [← hAe]; exact Or.inr h
  have hS : va_S A s.heap s.heap [] := va_S.rf
  have hP : va_P (dC, dI) vwCl [(h0, .inr (15, oX12 hh v_thrown v_finding v_taped v_faultPlace v_newNodes v_newParts v_fault v_faultAt v_at v_items v_newCaptures v_depth v_memberValue v_memberEnd v_loopLeast v_loopMost v_printedMany v_opened v_outMany v_outNumbers v_boundMany v_acts v_labels v_tasks v_trail v_choices v_now v_spot v_slotNow v_textNow v_longNow v_steps v_limit v_isOver v_stamp v_isGoing v_goSlot v_goSubject v_goFrom v_goSteps v_hasSpan v_spanCaptures v_findMany v_madeMany v_eaters v_reached v_reachesEnd v_pairs v_sorts)), ((hh 2), .inl (k0, 200, .inl v_tape))] s.heap := hP
  have hl := lv_entry ([.ref h0, .int p1, .long p2]) (n := 6) (Nat.le_of_ble_eq_true rfl)
  rw [lg_entry_eq]
  generalize (lg_sl ([.ref h0, .int p1, .long p2]) ++ List.replicate (6 - (lg_sl ([.ref h0, .int p1, .long p2])).length) Slot.unset).toArray = ls at hl ⊢
  have hl : lv_has ls 6 [(0, .ref h0), (1, .int p1), (2, .long p2)] := hl
  clear hD0
  obtain ⟨QQ, hQQ⟩ : ∃ QQ, QQ = MQ below (va_Qi (fun (r u : Int32) => r = u) (fun (u : Int32) (t : State) => ∃ (ov_thrown : Int32), ∃ (ov_taped : Int32), ∃ (ov_tape : Nat → Int32), (Q u ov_thrown ov_taped ov_tape) ∧ va_P (dC, dI) vwCl [(h0, .inr (15, oX12 hh ov_thrown v_finding ov_taped v_faultPlace v_newNodes v_newParts v_fault v_faultAt v_at v_items v_newCaptures v_depth v_memberValue v_memberEnd v_loopLeast v_loopMost v_printedMany v_opened v_outMany v_outNumbers v_boundMany v_acts v_labels v_tasks v_trail v_choices v_now v_spot v_slotNow v_textNow v_longNow v_steps v_limit v_isOver v_stamp v_isGoing v_goSlot v_goSubject v_goFrom v_goSteps v_hasSpan v_spanCaptures v_findMany v_madeMany v_eaters v_reached v_reachesEnd v_pairs v_sorts)), ((hh 2), .inl (k0, 200, .inl ov_tape))] t.heap ∧ va_D A [(h0, .inr (15, oX12 hh ov_thrown v_finding ov_taped v_faultPlace v_newNodes v_newParts v_fault v_faultAt v_at v_items v_newCaptures v_depth v_memberValue v_memberEnd v_loopLeast v_loopMost v_printedMany v_opened v_outMany v_outNumbers v_boundMany v_acts v_labels v_tasks v_trail v_choices v_now v_spot v_slotNow v_textNow v_longNow v_steps v_limit v_isOver v_stamp v_isGoing v_goSlot v_goSubject v_goFrom v_goSteps v_hasSpan v_spanCaptures v_findMany v_madeMany v_eaters v_reached v_reachesEnd v_pairs v_sorts)), ((hh 2), .inl (k0, 200, .inl ov_tape))]) A) ([.ref h0, .int p1, .long p2]).toArray s 0 0 A := ⟨_, rfl⟩
  show W p l e ({ frames := 1, cells := 0, slots := 0, locals := 22 } : Room) s m ([.ref h0, .int p1, .long p2]).toArray below meth c s.heap [] 0 0 (MQ below (va_Qi (fun (r u : Int32) => r = u) (fun (u : Int32) (t : State) => ∃ (ov_thrown : Int32), ∃ (ov_taped : Int32), ∃ (ov_tape : Nat → Int32), (Q u ov_thrown ov_taped ov_tape) ∧ va_P (dC, dI) vwCl [(h0, .inr (15, oX12 hh ov_thrown v_finding ov_taped v_faultPlace v_newNodes v_newParts v_fault v_faultAt v_at v_items v_newCaptures v_depth v_memberValue v_memberEnd v_loopLeast v_loopMost v_printedMany v_opened v_outMany v_outNumbers v_boundMany v_acts v_labels v_tasks v_trail v_choices v_now v_spot v_slotNow v_textNow v_longNow v_steps v_limit v_isOver v_stamp v_isGoing v_goSlot v_goSubject v_goFrom v_goSteps v_hasSpan v_spanCaptures v_findMany v_madeMany v_eaters v_reached v_reachesEnd v_pairs v_sorts)), ((hh 2), .inl (k0, 200, .inl ov_tape))] t.heap ∧ va_D A [(h0, .inr (15, oX12 hh ov_thrown v_finding ov_taped v_faultPlace v_newNodes v_newParts v_fault v_faultAt v_at v_items v_newCaptures v_depth v_memberValue v_memberEnd v_loopLeast v_loopMost v_printedMany v_opened v_outMany v_outNumbers v_boundMany v_acts v_labels v_tasks v_trail v_choices v_now v_spot v_slotNow v_textNow v_longNow v_steps v_limit v_isOver v_stamp v_isGoing v_goSlot v_goSubject v_goFrom v_goSteps v_hasSpan v_spanCaptures v_findMany v_madeMany v_eaters v_reached v_reachesEnd v_pairs v_sorts)), ((hh 2), .inl (k0, 200, .inl ov_tape))]) A) ([.ref h0, .int p1, .long p2]).toArray s 0 0 A) (F0 m 0 ls [])
  rw [← hQQ]
  unfold w_X12_feed at w
  refine lv_aload_n hx hb dX12_feed_0 rfl (lv_at hl 0 rfl) ?_
  refine lv_iconst (v := 0) hx hb dX12_feed_1 (by decide) ?_
  refine va_put (D := (dC, dI)) (ci := 15) (v := .int 0) (ty := .int) (C := RX12) (T := TX12) (N := 143) hx hb ht inX12 tyX12 tyX12_ok nmX12 hown hK hP hD hS 0 rfl rfl 0 (by decide) (ht _ tw_2136) (fun _ h9 => h9) rfl (by decide +kernel) rfl rfl (Nat.le_of_ble_eq_true rfl) dX12_feed_2 (fun H_1 locs_1 hP_1 hD_1 hS_1 => ?_)
  have hP_1 : va_P (dC, dI) vwCl [(h0, .inr (15, oX12 hh 0 v_finding v_taped v_faultPlace v_newNodes v_newParts v_fault v_faultAt v_at v_items v_newCaptures v_depth v_memberValue v_memberEnd v_loopLeast v_loopMost v_printedMany v_opened v_outMany v_outNumbers v_boundMany v_acts v_labels v_tasks v_trail v_choices v_now v_spot v_slotNow v_textNow v_longNow v_steps v_limit v_isOver v_stamp v_isGoing v_goSlot v_goSubject v_goFrom v_goSteps v_hasSpan v_spanCaptures v_findMany v_madeMany v_eaters v_reached v_reachesEnd v_pairs v_sorts)), ((hh 2), .inl (k0, 200, .inl v_tape))] H_1 := hP_1
  have hD_1 : va_D A [(h0, .inr (15, oX12 hh 0 v_finding v_taped v_faultPlace v_newNodes v_newParts v_fault v_faultAt v_at v_items v_newCaptures v_depth v_memberValue v_memberEnd v_loopLeast v_loopMost v_printedMany v_opened v_outMany v_outNumbers v_boundMany v_acts v_labels v_tasks v_trail v_choices v_now v_spot v_slotNow v_textNow v_longNow v_steps v_limit v_isOver v_stamp v_isGoing v_goSlot v_goSubject v_goFrom v_goSteps v_hasSpan v_spanCaptures v_findMany v_madeMany v_eaters v_reached v_reachesEnd v_pairs v_sorts)), ((hh 2), .inl (k0, 200, .inl v_tape))] := hD_1
  refine lv_iload_n hx hb dX12_feed_5 rfl (lv_at hl 1 rfl) ?_
  refine lv_iconst (v := 1) hx hb dX12_feed_6 (by decide) ?_
  refine lv_bipush (v := 8) hx hb dX12_feed_7 (by decide) ?_
  have hPc_2 := hP_1.sub (ws' := []) [] rfl
  have hDc_2 := hD_1.sub (ws' := []) [] (by decide) rfl
  have hKc_2 := hK.sub (tys' := []) [] rfl
  have hFc_2 := va_free (wc := []) hD_1 hS_1 hA [] rfl
  refine va_calli (va_runS (As := [.int p1, .int 1, .int 8]) (rest := []) ⟨hx, hb, hml, hown, ht⟩ (mt_X12_in l dC dI p1 1 8 _ w H_1.size) (cwS 3 ht (goodS tw_2570 tw_2571 tw_249 gw_X12_in) rfl rfl rfl (by decide +kernel) ⟨Nat.le_of_ble_eq_true rfl, Nat.le_of_ble_eq_true rfl⟩) ⟨fun a U g mk q => by obtain ⟨q0, q1, qP, qK, qD⟩ := q; exact ⟨q0, q1, qP, va_K.moved (u := U) (U := U.calling g mk a) (Vm.Alike.refl U.vm) qK, qD⟩, fun U hU hW => ⟨rfl, by rw [hU], by rw [hU]; exact hPc_2, va_K.moved hW.alike hKc_2, hDc_2.weaken (fun _ _ _ _ => trivial)⟩⟩ rfl rfl hl.1 rfl (lv_room (Nat.le_of_ble_eq_true rfl)) dX12_feed_9 ⟨Nat.le_of_ble_eq_true rfl, Nat.le_of_ble_eq_true rfl⟩) hS_1 (fun q _ h => hFc_2 q h) hFc_2 (fun r_2 u_2 t_2 H_2 locs_2 ht_2 hvm_2 hw_2 hB_2 hz_2 hk_2 hS_2 => ?_)
  subst hw_2
  obtain ⟨w_2, hP1_2, hD1_2⟩ := hB_2
  rw [ht_2] at hP1_2
  obtain ⟨hP_2, hD_2⟩ := va_join (wr := [(h0, .inr (15, oX12 hh 0 v_finding v_taped v_faultPlace v_newNodes v_newParts v_fault v_faultAt v_at v_items v_newCaptures v_depth v_memberValue v_memberEnd v_loopLeast v_loopMost v_printedMany v_opened v_outMany v_outNumbers v_boundMany v_acts v_labels v_tasks v_trail v_choices v_now v_spot v_slotNow v_textNow v_longNow v_steps v_limit v_isOver v_stamp v_isGoing v_goSlot v_goSubject v_goFrom v_goSteps v_hasSpan v_spanCaptures v_findMany v_madeMany v_eaters v_reached v_reachesEnd v_pairs v_sorts)), ((hh 2), .inl (k0, 200, .inl v_tape))]) (w1 := []) hP_1 hD_1 [] [0, 1] rfl rfl (by decide) (by decide) hk_2 hFc_2 hP1_2 hD1_2
  have hP_2 := hP_2.sub (ws' := [(h0, .inr (15, oX12 hh 0 v_finding v_taped v_faultPlace v_newNodes v_newParts v_fault v_faultAt v_at v_items v_newCaptures v_depth v_memberValue v_memberEnd v_loopLeast v_loopMost v_printedMany v_opened v_outMany v_outNumbers v_boundMany v_acts v_labels v_tasks v_trail v_choices v_now v_spot v_slotNow v_textNow v_longNow v_steps v_limit v_isOver v_stamp v_isGoing v_goSlot v_goSubject v_goFrom v_goSteps v_hasSpan v_spanCaptures v_findMany v_madeMany v_eaters v_reached v_reachesEnd v_pairs v_sorts)), ((hh 2), .inl (k0, 200, .inl v_tape))]) [0, 1] rfl
  have hD_2 := hD_2.sub (ws' := [(h0, .inr (15, oX12 hh 0 v_finding v_taped v_faultPlace v_newNodes v_newParts v_fault v_faultAt v_at v_items v_newCaptures v_depth v_memberValue v_memberEnd v_loopLeast v_loopMost v_printedMany v_opened v_outMany v_outNumbers v_boundMany v_acts v_labels v_tasks v_trail v_choices v_now v_spot v_slotNow v_textNow v_longNow v_steps v_limit v_isOver v_stamp v_isGoing v_goSlot v_goSubject v_goFrom v_goSteps v_hasSpan v_spanCaptures v_findMany v_madeMany v_eaters v_reached v_reachesEnd v_pairs v_sorts)), ((hh 2), .inl (k0, 200, .inl v_tape))]) [0, 1] (by decide) rfl
  clear hPc_2 hDc_2 hKc_2 hFc_2 hP1_2 hD1_2 hk_2 hz_2
  refine lv_istore (lv' := [(4, .int r_2), (0, .ref h0), (1, .int p1), (2, .long p2)]) hx hb dX12_feed_12 hl (by decide) rfl (fun ls_3 hl_3 => ?_)
  clear hl
  refine lv_iconst (v := 0) hx hb dX12_feed_14 (by decide) ?_
  refine lv_istore (lv' := [(5, .int 0), (4, .int r_2), (0, .ref h0), (1, .int p1), (2, .long p2)]) hx hb dX12_feed_15 hl_3 (by decide) rfl (fun ls_4 hl_4 => ?_)
  clear hl_3
  have k_17 : ∀ (v_thrown_17 : Int32) (v_taped_17 : Int32) (v_tape_17 : Nat → Int32), ∀ n_17 : Nat, ∀ (l4_17 : Int32) (l5_17 : Int32), ∀ (H_b17 : Heap) (locs_b17 : List Loc) (ls_b17 : Array Slot), w_X12_feed_17 p1 p2 Q v_thrown_17 v_taped_17 v_tape_17 n_17 l4_17 l5_17 → va_P (dC, dI) vwCl [(h0, .inr (15, oX12 hh v_thrown_17 v_finding v_taped_17 v_faultPlace v_newNodes v_newParts v_fault v_faultAt v_at v_items v_newCaptures v_depth v_memberValue v_memberEnd v_loopLeast v_loopMost v_printedMany v_opened v_outMany v_outNumbers v_boundMany v_acts v_labels v_tasks v_trail v_choices v_now v_spot v_slotNow v_textNow v_longNow v_steps v_limit v_isOver v_stamp v_isGoing v_goSlot v_goSubject v_goFrom v_goSteps v_hasSpan v_spanCaptures v_findMany v_madeMany v_eaters v_reached v_reachesEnd v_pairs v_sorts)), ((hh 2), .inl (k0, 200, .inl v_tape_17))] H_b17 → va_D A [(h0, .inr (15, oX12 hh v_thrown_17 v_finding v_taped_17 v_faultPlace v_newNodes v_newParts v_fault v_faultAt v_at v_items v_newCaptures v_depth v_memberValue v_memberEnd v_loopLeast v_loopMost v_printedMany v_opened v_outMany v_outNumbers v_boundMany v_acts v_labels v_tasks v_trail v_choices v_now v_spot v_slotNow v_textNow v_longNow v_steps v_limit v_isOver v_stamp v_isGoing v_goSlot v_goSubject v_goFrom v_goSteps v_hasSpan v_spanCaptures v_findMany v_madeMany v_eaters v_reached v_reachesEnd v_pairs v_sorts)), ((hh 2), .inl (k0, 200, .inl v_tape_17))] → va_S A s.heap H_b17 locs_b17 → lv_has ls_b17 6 [(0, .ref h0), (1, .int p1), (2, .long p2), (4, .int l4_17), (5, .int l5_17)] → W p l e ({ frames := 1, cells := 0, slots := 0, locals := 22 } : Room) s m ([.ref h0, .int p1, .long p2]).toArray below meth c H_b17 locs_b17 0 0 QQ (F0 m 17 ls_b17 []) := by
    intro v_thrown_17 v_taped_17 v_tape_17
    intro n_17
    induction n_17 with
    | zero =>
      intro l4_17 l5_17 H_b17 locs_b17 ls_b17 w_b17 hP_b17 hD_b17 hS_b17 hl_b17
      exact False.elim (by unfold w_X12_feed_17 at w_b17; exact w_b17)
    | succ n_17 ih_17 =>
      intro l4_17 l5_17 H_b17 locs_b17 ls_b17 w_b17 hP_b17 hD_b17 hS_b17 hl_b17
      unfold w_X12_feed_17 at w_b17
      unfold w_X12_feed_17B at w_b17
      refine lv_iload hx hb dX12_feed_17 (lv_at hl_b17 4 rfl) ?_
      refine lv_iload_n hx hb dX12_feed_19 rfl (lv_at hl_b17 1 rfl) ?_
      have k_55 : ∀ (l4_55 : Int32) (v_thrown_55 : Int32) (v_taped_55 : Int32) (v_tape_55 : Nat → Int32), ∀ (H_b55 : Heap) (locs_b55 : List Loc) (ls_b55 : Array Slot), w_X12_feed_55 p1 p2 Q l4_55 v_thrown_55 v_taped_55 v_tape_55 → va_P (dC, dI) vwCl [(h0, .inr (15, oX12 hh v_thrown_55 v_finding v_taped_55 v_faultPlace v_newNodes v_newParts v_fault v_faultAt v_at v_items v_newCaptures v_depth v_memberValue v_memberEnd v_loopLeast v_loopMost v_printedMany v_opened v_outMany v_outNumbers v_boundMany v_acts v_labels v_tasks v_trail v_choices v_now v_spot v_slotNow v_textNow v_longNow v_steps v_limit v_isOver v_stamp v_isGoing v_goSlot v_goSubject v_goFrom v_goSteps v_hasSpan v_spanCaptures v_findMany v_madeMany v_eaters v_reached v_reachesEnd v_pairs v_sorts)), ((hh 2), .inl (k0, 200, .inl v_tape_55))] H_b55 → va_D A [(h0, .inr (15, oX12 hh v_thrown_55 v_finding v_taped_55 v_faultPlace v_newNodes v_newParts v_fault v_faultAt v_at v_items v_newCaptures v_depth v_memberValue v_memberEnd v_loopLeast v_loopMost v_printedMany v_opened v_outMany v_outNumbers v_boundMany v_acts v_labels v_tasks v_trail v_choices v_now v_spot v_slotNow v_textNow v_longNow v_steps v_limit v_isOver v_stamp v_isGoing v_goSlot v_goSubject v_goFrom v_goSteps v_hasSpan v_spanCaptures v_findMany v_madeMany v_eaters v_reached v_reachesEnd v_pairs v_sorts)), ((hh 2), .inl (k0, 200, .inl v_tape_55))] → va_S A s.heap H_b55 locs_b55 → lv_has ls_b55 6 [(0, .ref h0), (1, .int p1), (2, .long p2), (4, .int l4_55)] → W p l e ({ frames := 1, cells := 0, slots := 0, locals := 22 } : Room) s m ([.ref h0, .int p1, .long p2]).toArray below meth c H_b55 locs_b55 0 0 QQ (F0 m 55 ls_b55 []) := by
        intro l4_55 v_thrown_55 v_taped_55 v_tape_55 H_b55 locs_b55 ls_b55 w_b55 hP_b55 hD_b55 hS_b55 hl_b55
        unfold w_X12_feed_55 at w_b55
        refine lv_iload hx hb dX12_feed_55 (lv_at hl_b55 3 rfl) ?_
        refine lv_if_ne (tgt := 63) hx hb dX12_feed_57 (by decide) (fun c_5 => ?_) (fun c_5 => ?_)
        · refine lv_aload_n hx hb dX12_feed_63 rfl (lv_at hl_b55 0 rfl) ?_
          refine va_get (D := (dC, dI)) (ci := 15) (v := .int v_taped_55) (C := RX12) (T := TX12) (N := 143) hx hb ht inX12 hown hK hP_b55 0 rfl rfl 3 (by decide) (ht _ tw_2139) (fun _ h9 => h9) rfl dX12_feed_64 ?_
          refine lv_iload_n hx hb dX12_feed_67 rfl (lv_at hl_b55 1 rfl) ?_
          refine lv_iadd hx hb dX12_feed_68 ?_
          refine lv_topi (fun x_6 ex_6 => ?_)
          have ex_6 : x_6 = v_taped_55 + p1 := ex_6
          refine lv_sipush (v := 200) hx hb dX12_feed_69 (by decide) ?_
          refine lv_icmp_le (tgt := 78) hx hb dX12_feed_72 (by decide) (fun c_7 => ?_) (fun c_7 => ?_)
          · refine lv_iload_n hx hb dX12_feed_78 rfl (lv_at hl_b55 1 rfl) ?_
            refine lv_iconst (v := 1) hx hb dX12_feed_79 (by decide) ?_
            refine lv_isub hx hb dX12_feed_80 ?_
            refine lv_topi (fun x_8 ex_8 => ?_)
            have ex_8 : x_8 = p1 - (1 : Int32) := ex_8
            refine lv_istore (lv' := [(5, .int x_8), (0, .ref h0), (1, .int p1), (2, .long p2), (4, .int l4_55)]) hx hb dX12_feed_81 hl_b55 (by decide) rfl (fun ls_9 hl_9 => ?_)
            clear hl_b55
            have k_83 : ∀ (v_thrown_83 : Int32), ∀ n_83 : Nat, ∀ (l5_83 : Int32) (v_taped_83 : Int32) (v_tape_83 : Nat → Int32), ∀ (H_b83 : Heap) (locs_b83 : List Loc) (ls_b83 : Array Slot), w_X12_feed_83 p2 Q v_thrown_83 n_83 l5_83 v_taped_83 v_tape_83 → va_P (dC, dI) vwCl [(h0, .inr (15, oX12 hh v_thrown_83 v_finding v_taped_83 v_faultPlace v_newNodes v_newParts v_fault v_faultAt v_at v_items v_newCaptures v_depth v_memberValue v_memberEnd v_loopLeast v_loopMost v_printedMany v_opened v_outMany v_outNumbers v_boundMany v_acts v_labels v_tasks v_trail v_choices v_now v_spot v_slotNow v_textNow v_longNow v_steps v_limit v_isOver v_stamp v_isGoing v_goSlot v_goSubject v_goFrom v_goSteps v_hasSpan v_spanCaptures v_findMany v_madeMany v_eaters v_reached v_reachesEnd v_pairs v_sorts)), ((hh 2), .inl (k0, 200, .inl v_tape_83))] H_b83 → va_D A [(h0, .inr (15, oX12 hh v_thrown_83 v_finding v_taped_83 v_faultPlace v_newNodes v_newParts v_fault v_faultAt v_at v_items v_newCaptures v_depth v_memberValue v_memberEnd v_loopLeast v_loopMost v_printedMany v_opened v_outMany v_outNumbers v_boundMany v_acts v_labels v_tasks v_trail v_choices v_now v_spot v_slotNow v_textNow v_longNow v_steps v_limit v_isOver v_stamp v_isGoing v_goSlot v_goSubject v_goFrom v_goSteps v_hasSpan v_spanCaptures v_findMany v_madeMany v_eaters v_reached v_reachesEnd v_pairs v_sorts)), ((hh 2), .inl (k0, 200, .inl v_tape_83))] → va_S A s.heap H_b83 locs_b83 → lv_has ls_b83 6 [(0, .ref h0), (2, .long p2), (5, .int l5_83)] → W p l e ({ frames := 1, cells := 0, slots := 0, locals := 22 } : Room) s m ([.ref h0, .int p1, .long p2]).toArray below meth c H_b83 locs_b83 0 0 QQ (F0 m 83 ls_b83 []) := by
              intro v_thrown_83
              intro n_83
              induction n_83 with
              | zero =>
                intro l5_83 v_taped_83 v_tape_83 H_b83 locs_b83 ls_b83 w_b83 hP_b83 hD_b83 hS_b83 hl_b83
                exact False.elim (by unfold w_X12_feed_83 at w_b83; exact w_b83)
              | succ n_83 ih_83 =>
                intro l5_83 v_taped_83 v_tape_83 H_b83 locs_b83 ls_b83 w_b83 hP_b83 hD_b83 hS_b83 hl_b83
                unfold w_X12_feed_83 at w_b83
                unfold w_X12_feed_83B at w_b83
                refine lv_iload hx hb dX12_feed_83 (lv_at hl_b83 2 rfl) ?_
                refine lv_if_lt (tgt := 125) hx hb dX12_feed_85 (by decide) (fun c_10 => ?_) (fun c_10 => ?_)
                · refine lv_aload_n hx hb dX12_feed_125 rfl (lv_at hl_b83 0 rfl) ?_
                  refine va_get (D := (dC, dI)) (ci := 15) (v := .int v_taped_83) (C := RX12) (T := TX12) (N := 143) hx hb ht inX12 hown hK hP_b83 0 rfl rfl 3 (by decide) (ht _ tw_2139) (fun _ h9 => h9) rfl dX12_feed_126 ?_
                  rw [hQQ]
                  exact W.iret (v := v_taped_83) hx hb hr (fun t9 ht9 hW9 => ⟨⟨v_taped_83, v_taped_83, rfl, rfl, ⟨v_thrown_83, v_taped_83, v_tape_83, w_b83.1 c_10, by rw [ht9]; exact hP_b83, hD_b83⟩⟩, hS_b83.F ht9⟩) hS_b83.2.2 dX12_feed_129
                · refine lv_aload_n hx hb dX12_feed_88 rfl (lv_at hl_b83 0 rfl) ?_
                  refine va_get (D := (dC, dI)) (ci := 15) (v := .ref (hh 2)) (C := RX12) (T := TX12) (N := 143) hx hb ht inX12 hown hK hP_b83 0 rfl rfl 2 (by decide) (ht _ tw_2138) (fun _ h9 => h9) rfl dX12_feed_89 ?_
                  refine lv_aload_n hx hb dX12_feed_92 rfl (lv_at hl_b83 0 rfl) ?_
                  refine va_get (D := (dC, dI)) (ci := 15) (v := .int v_taped_83) (C := RX12) (T := TX12) (N := 143) hx hb ht inX12 hown hK hP_b83 0 rfl rfl 3 (by decide) (ht _ tw_2139) (fun _ h9 => h9) rfl dX12_feed_93 ?_
                  refine lv_lload_n hx hb dX12_feed_96 rfl (lv_at hl_b83 1 rfl) ?_
                  refine lv_bipush (v := 8) hx hb dX12_feed_97 (by decide) ?_
                  refine lv_iload hx hb dX12_feed_99 (lv_at hl_b83 2 rfl) ?_
                  refine lv_imul hx hb dX12_feed_101 ?_
                  refine lv_topi (fun x_11 ex_11 => ?_)
                  have ex_11 : x_11 = (8 : Int32) * l5_83 := ex_11
                  refine lv_lshr hx hb dX12_feed_102 rfl ?_
                  refine lv_topl (fun y_12 ey_12 => ?_)
                  have ey_12 : y_12 = p2 >>> (x_11.toInt64 &&& 63) := ey_12
                  refine lv_ldc2 hx hb hown (ht _ tw_2573) dX12_feed_103 ?_
                  refine lv_land hx hb dX12_feed_106 ?_
                  refine lv_topl (fun y_13 ey_13 => ?_)
                  have ey_13 : y_13 = y_12 &&& (255 : Int64) := ey_13
                  refine lv_l2i hx hb dX12_feed_107 rfl ?_
                  refine lv_topi (fun x_14 ex_14 => ?_)
                  have ex_14 : x_14 = y_13.toInt32 := ex_14
                  have w_15 := w_b83.2 c_10 x_11 ex_11 y_12 ey_12 y_13 ey_13 x_14 ex_14
                  refine va_iast hx hb hK hP_b83 hD_b83 hS_b83 1 0 rfl rfl (i := v_taped_83) w_15.1 dX12_feed_108 (fun H_16 locs_16 hP_16 hD_16 hS_16 => ?_)
                  obtain ⟨g_16, hg_16⟩ : ∃ g : Nat → Int32, g = upd v_tape_83 v_taped_83.toNatClampNeg x_14 := ⟨_, rfl⟩
                  have hP_16 : va_P (dC, dI) vwCl [(h0, .inr (15, oX12 hh v_thrown_83 v_finding v_taped_83 v_faultPlace v_newNodes v_newParts v_fault v_faultAt v_at v_items v_newCaptures v_depth v_memberValue v_memberEnd v_loopLeast v_loopMost v_printedMany v_opened v_outMany v_outNumbers v_boundMany v_acts v_labels v_tasks v_trail v_choices v_now v_spot v_slotNow v_textNow v_longNow v_steps v_limit v_isOver v_stamp v_isGoing v_goSlot v_goSubject v_goFrom v_goSteps v_hasSpan v_spanCaptures v_findMany v_madeMany v_eaters v_reached v_reachesEnd v_pairs v_sorts)), ((hh 2), .inl (k0, 200, .inl g_16))] H_16 := by rw [hg_16]; exact hP_16
                  have hD_16 : va_D A [(h0, .inr (15, oX12 hh v_thrown_83 v_finding v_taped_83 v_faultPlace v_newNodes v_newParts v_fault v_faultAt v_at v_items v_newCaptures v_depth v_memberValue v_memberEnd v_loopLeast v_loopMost v_printedMany v_opened v_outMany v_outNumbers v_boundMany v_acts v_labels v_tasks v_trail v_choices v_now v_spot v_slotNow v_textNow v_longNow v_steps v_limit v_isOver v_stamp v_isGoing v_goSlot v_goSubject v_goFrom v_goSteps v_hasSpan v_spanCaptures v_findMany v_madeMany v_eaters v_reached v_reachesEnd v_pairs v_sorts)), ((hh 2), .inl (k0, 200, .inl g_16))] := by rw [hg_16]; exact hD_16
                  refine lv_aload_n hx hb dX12_feed_109 rfl (lv_at hl_b83 0 rfl) ?_
                  refine lv_dup hx hb dX12_feed_110 rfl ?_
                  refine va_get (D := (dC, dI)) (ci := 15) (v := .int v_taped_83) (C := RX12) (T := TX12) (N := 143) hx hb ht inX12 hown hK hP_16 0 rfl rfl 3 (by decide) (ht _ tw_2139) (fun _ h9 => h9) rfl dX12_feed_111 ?_
                  refine lv_iconst (v := 1) hx hb dX12_feed_114 (by decide) ?_
                  refine lv_iadd hx hb dX12_feed_115 ?_
                  refine lv_topi (fun x_17 ex_17 => ?_)
                  have ex_17 : x_17 = v_taped_83 + (1 : Int32) := ex_17
                  refine va_put (D := (dC, dI)) (ci := 15) (v := .int x_17) (ty := .int) (C := RX12) (T := TX12) (N := 143) hx hb ht inX12 tyX12 tyX12_ok nmX12 hown hK hP_16 hD_16 hS_16 0 rfl rfl 3 (by decide) (ht _ tw_2139) (fun _ h9 => h9) rfl (by decide +kernel) rfl rfl (Nat.le_of_ble_eq_true rfl) dX12_feed_116 (fun H_18 locs_18 hP_18 hD_18 hS_18 => ?_)
                  have hP_18 : va_P (dC, dI) vwCl [(h0, .inr (15, oX12 hh v_thrown_83 v_finding x_17 v_faultPlace v_newNodes v_newParts v_fault v_faultAt v_at v_items v_newCaptures v_depth v_memberValue v_memberEnd v_loopLeast v_loopMost v_printedMany v_opened v_outMany v_outNumbers v_boundMany v_acts v_labels v_tasks v_trail v_choices v_now v_spot v_slotNow v_textNow v_longNow v_steps v_limit v_isOver v_stamp v_isGoing v_goSlot v_goSubject v_goFrom v_goSteps v_hasSpan v_spanCaptures v_findMany v_madeMany v_eaters v_reached v_reachesEnd v_pairs v_sorts)), ((hh 2), .inl (k0, 200, .inl g_16))] H_18 := hP_18
                  have hD_18 : va_D A [(h0, .inr (15, oX12 hh v_thrown_83 v_finding x_17 v_faultPlace v_newNodes v_newParts v_fault v_faultAt v_at v_items v_newCaptures v_depth v_memberValue v_memberEnd v_loopLeast v_loopMost v_printedMany v_opened v_outMany v_outNumbers v_boundMany v_acts v_labels v_tasks v_trail v_choices v_now v_spot v_slotNow v_textNow v_longNow v_steps v_limit v_isOver v_stamp v_isGoing v_goSlot v_goSubject v_goFrom v_goSteps v_hasSpan v_spanCaptures v_findMany v_madeMany v_eaters v_reached v_reachesEnd v_pairs v_sorts)), ((hh 2), .inl (k0, 200, .inl g_16))] := hD_18
                  obtain ⟨x_19, ex_19⟩ : ∃ y : Int32, y = l5_83 + (-1) := ⟨_, rfl⟩
                  refine lv_iinc (v := x_19) (lv' := [(5, .int x_19), (0, .ref h0), (2, .long p2)]) hx hb dX12_feed_119 hl_b83 (k := 2) rfl ex_19.symm (by decide) rfl (fun ls_19 hl_19 => ?_)
                  refine lv_goto (tgt := 83) hx hb dX12_feed_122 (by decide) ?_
                  exact ih_83 x_19 x_17 g_16 _ _ _ (w_15.2 g_16 hg_16 x_17 ex_17 x_19 ex_19) hP_18 hD_18 hS_18 (lv_sub hl_19 [1, 2, 0] rfl)
            obtain ⟨n_20, w_20⟩ := ((w_b55.1 c_5 x_6 ex_6).1 c_7) x_8 ex_8
            exact k_83 v_thrown_55 n_20 x_8 v_taped_55 v_tape_55 _ _ _ w_20 hP_b55 hD_b55 hS_b55 (lv_sub hl_9 [1, 3, 0] rfl)
          · refine lv_bipush (v := (-9)) hx hb dX12_feed_75 (by decide) ?_
            rw [hQQ]
            exact W.iret (v := (-9)) hx hb hr (fun t9 ht9 hW9 => ⟨⟨(-9), (-9), rfl, rfl, ⟨v_thrown_55, v_taped_55, v_tape_55, (w_b55.1 c_5 x_6 ex_6).2 c_7, by rw [ht9]; exact hP_b55, hD_b55⟩⟩, hS_b55.F ht9⟩) hS_b55.2.2 dX12_feed_77
        · refine lv_bipush (v := (-4)) hx hb dX12_feed_60 (by decide) ?_
          rw [hQQ]
          exact W.iret (v := (-4)) hx hb hr (fun t9 ht9 hW9 => ⟨⟨(-4), (-4), rfl, rfl, ⟨v_thrown_55, v_taped_55, v_tape_55, w_b55.2 c_5, by rw [ht9]; exact hP_b55, hD_b55⟩⟩, hS_b55.F ht9⟩) hS_b55.2.2 dX12_feed_62
      refine lv_icmp_ge (tgt := 55) hx hb dX12_feed_20 (by decide) (fun c_21 => ?_) (fun c_21 => ?_)
      · exact k_55 l4_17 v_thrown_17 v_taped_17 v_tape_17 _ _ _ (w_b17.1 c_21) hP_b17 hD_b17 hS_b17 (lv_sub hl_b17 [0, 1, 2, 3] rfl)
      · refine lv_iload hx hb dX12_feed_23 (lv_at hl_b17 3 rfl) ?_
        refine lv_if_eq (tgt := 55) hx hb dX12_feed_25 (by decide) (fun c_22 => ?_) (fun c_22 => ?_)
        · exact k_55 l4_17 v_thrown_17 v_taped_17 v_tape_17 _ _ _ ((w_b17.2 c_21).1 c_22) hP_b17 hD_b17 hS_b17 (lv_sub hl_b17 [0, 1, 2, 3] rfl)
        · refine lv_lload_n hx hb dX12_feed_28 rfl (lv_at hl_b17 2 rfl) ?_
          refine lv_bipush (v := 8) hx hb dX12_feed_29 (by decide) ?_
          refine lv_iload hx hb dX12_feed_31 (lv_at hl_b17 4 rfl) ?_
          refine lv_imul hx hb dX12_feed_33 ?_
          refine lv_topi (fun x_23 ex_23 => ?_)
          have ex_23 : x_23 = (8 : Int32) * l5_17 := ex_23
          refine lv_lshr hx hb dX12_feed_34 rfl ?_
          refine lv_topl (fun y_24 ey_24 => ?_)
          have ey_24 : y_24 = p2 >>> (x_23.toInt64 &&& 63) := ey_24
          refine lv_ldc2 hx hb hown (ht _ tw_2573) dX12_feed_35 ?_
          refine lv_land hx hb dX12_feed_38 ?_
          refine lv_topl (fun y_25 ey_25 => ?_)
          have ey_25 : y_25 = y_24 &&& (255 : Int64) := ey_25
          refine lv_l2i hx hb dX12_feed_39 rfl ?_
          refine lv_topi (fun x_26 ex_26 => ?_)
          have ex_26 : x_26 = y_25.toInt32 := ex_26
          refine lv_bipush (v := 32) hx hb dX12_feed_40 (by decide) ?_
          refine lv_bipush (v := 126) hx hb dX12_feed_42 (by decide) ?_
          have hPc_27 := hP_b17.sub (ws' := []) [] rfl
          have hDc_27 := hD_b17.sub (ws' := []) [] (by decide) rfl
          have hKc_27 := hK.sub (tys' := []) [] rfl
          have hFc_27 := va_free (wc := []) hD_b17 hS_b17 hA [] rfl
          have w_28 := (((((w_b17.2 c_21).2 c_22) x_23 ex_23) y_24 ey_24) y_25 ey_25) x_26 ex_26
          refine va_calli (va_runS (As := [.int x_26, .int 32, .int 126]) (rest := []) ⟨hx, hb, hml, hown, ht⟩ (mt_X12_in l dC dI x_26 32 126 _ w_28 H_b17.size) (cwS 3 ht (goodS tw_2570 tw_2571 tw_249 gw_X12_in) rfl rfl rfl (by decide +kernel) ⟨Nat.le_of_ble_eq_true rfl, Nat.le_of_ble_eq_true rfl⟩) ⟨fun a U g mk q => by obtain ⟨q0, q1, qP, qK, qD⟩ := q; exact ⟨q0, q1, qP, va_K.moved (u := U) (U := U.calling g mk a) (Vm.Alike.refl U.vm) qK, qD⟩, fun U hU hW => ⟨rfl, by rw [hU], by rw [hU]; exact hPc_27, va_K.moved hW.alike hKc_27, hDc_27.weaken (fun _ _ _ _ => trivial)⟩⟩ rfl rfl hl_b17.1 rfl (lv_room (Nat.le_of_ble_eq_true rfl)) dX12_feed_44 ⟨Nat.le_of_ble_eq_true rfl, Nat.le_of_ble_eq_true rfl⟩) hS_b17 (fun q _ h => hFc_27 q h) hFc_27 (fun r_27 u_27 t_27 H_27 locs_27 ht_27 hvm_27 hw_27 hB_27 hz_27 hk_27 hS_27 => ?_)
          subst hw_27
          obtain ⟨w_27, hP1_27, hD1_27⟩ := hB_27
          rw [ht_27] at hP1_27
          obtain ⟨hP_27, hD_27⟩ := va_join (wr := [(h0, .inr (15, oX12 hh v_thrown_17 v_finding v_taped_17 v_faultPlace v_newNodes v_newParts v_fault v_faultAt v_at v_items v_newCaptures v_depth v_memberValue v_memberEnd v_loopLeast v_loopMost v_printedMany v_opened v_outMany v_outNumbers v_boundMany v_acts v_labels v_tasks v_trail v_choices v_now v_spot v_slotNow v_textNow v_longNow v_steps v_limit v_isOver v_stamp v_isGoing v_goSlot v_goSubject v_goFrom v_goSteps v_hasSpan v_spanCaptures v_findMany v_madeMany v_eaters v_reached v_reachesEnd v_pairs v_sorts)), ((hh 2), .inl (k0, 200, .inl v_tape_17))]) (w1 := []) hP_b17 hD_b17 [] [0, 1] rfl rfl (by decide) (by decide) hk_27 hFc_27 hP1_27 hD1_27
          have hP_27 := hP_27.sub (ws' := [(h0, .inr (15, oX12 hh v_thrown_17 v_finding v_taped_17 v_faultPlace v_newNodes v_newParts v_fault v_faultAt v_at v_items v_newCaptures v_depth v_memberValue v_memberEnd v_loopLeast v_loopMost v_printedMany v_opened v_outMany v_outNumbers v_boundMany v_acts v_labels v_tasks v_trail v_choices v_now v_spot v_slotNow v_textNow v_longNow v_steps v_limit v_isOver v_stamp v_isGoing v_goSlot v_goSubject v_goFrom v_goSteps v_hasSpan v_spanCaptures v_findMany v_madeMany v_eaters v_reached v_reachesEnd v_pairs v_sorts)), ((hh 2), .inl (k0, 200, .inl v_tape_17))]) [0, 1] rfl
          have hD_27 := hD_27.sub (ws' := [(h0, .inr (15, oX12 hh v_thrown_17 v_finding v_taped_17 v_faultPlace v_newNodes v_newParts v_fault v_faultAt v_at v_items v_newCaptures v_depth v_memberValue v_memberEnd v_loopLeast v_loopMost v_printedMany v_opened v_outMany v_outNumbers v_boundMany v_acts v_labels v_tasks v_trail v_choices v_now v_spot v_slotNow v_textNow v_longNow v_steps v_limit v_isOver v_stamp v_isGoing v_goSlot v_goSubject v_goFrom v_goSteps v_hasSpan v_spanCaptures v_findMany v_madeMany v_eaters v_reached v_reachesEnd v_pairs v_sorts)), ((hh 2), .inl (k0, 200, .inl v_tape_17))]) [0, 1] (by decide) rfl
          clear hPc_27 hDc_27 hKc_27 hFc_27 hP1_27 hD1_27 hk_27 hz_27
          refine lv_istore (lv' := [(4, .int r_27), (0, .ref h0), (1, .int p1), (2, .long p2), (5, .int l5_17)]) hx hb dX12_feed_47 hl_b17 (by decide) rfl (fun ls_29 hl_29 => ?_)
          clear hl_b17
          obtain ⟨x_30, ex_30⟩ : ∃ y : Int32, y = l5_17 + 1 := ⟨_, rfl⟩
          refine lv_iinc (v := x_30) (lv' := [(5, .int x_30), (4, .int r_27), (0, .ref h0), (1, .int p1), (2, .long p2)]) hx hb dX12_feed_49 hl_29 (k := 4) rfl ex_30.symm (by decide) rfl (fun ls_30 hl_30 => ?_)
          refine lv_goto (tgt := 17) hx hb dX12_feed_52 (by decide) ?_
          exact ih_17 r_27 x_30 _ _ _ (w_27 x_30 ex_30) hP_27 hD_27 hS_27 (lv_sub hl_30 [2, 3, 4, 1, 0] rfl)
  obtain ⟨n_31, w_31⟩ := w_2
  exact k_17 0 v_taped v_tape n_31 r_2 0 _ _ _ w_31 hP_2 hD_2 hS_2 (lv_sub hl_4 [2, 3, 4, 1, 0] rfl)
