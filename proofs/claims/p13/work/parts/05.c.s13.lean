def w_X2_begin (p1 : Int32) (p2 : Int32) (p3 : Int32) (Q : Int32 → Int32 → Int32 → Int32 → Bool → Int32 → Int32 → Int32 → Int32 → Int32 → Int32 → Prop) : Prop :=
  w_X2_beginRow  (fun r_7_0 r_7_1 r_7_2 r_7_3 r_7_4 => Q  p1 p2 p3 r_7_0 r_7_1 r_7_2 r_7_3 r_7_4 (-1) (-1) 0)
set_option maxHeartbeats 4000000 in
set_option maxRecDepth 100000 in
theorem mt_X2_begin (l : Launch) (dC : Nat → ClassId) (dI : Nat → Nat → Nat) (h0 : Nat) (p1 : Int32) (p2 : Int32) (p3 : Int32) (v_sort : Int32) (v_value : Int32) (v_name : Int32) (v_pending : Int32) (v_loopable : Bool) (v_rowFirst : Int32) (v_rowLast : Int32) (v_rowCount : Int32) (v_choiceFirst : Int32) (v_choiceLast : Int32) (v_choiceCount : Int32) (Q : Int32 → Int32 → Int32 → Int32 → Bool → Int32 → Int32 → Int32 → Int32 → Int32 → Int32 → Prop) (w : w_X2_begin p1 p2 p3 Q) (sz : Nat) : Met l yX2_begin (WS yX2_begin cX2_begin 4 none) ({ frames := 1, cells := 0, slots := 0, locals := 20 } : Room) (va_Pc [.ref h0, .int p1, .int p2, .int p3] (fun U => U.heap.size = sz ∧ va_P (dC, dI) vwCl [(h0, .inr (5, oX2 v_sort v_value v_name v_pending v_loopable v_rowFirst v_rowLast v_rowCount v_choiceFirst v_choiceLast v_choiceCount))] U.heap ∧ va_K (dC, dI) vwCl [] U ∧ va_D (fun _ => True) [(h0, .inr (5, oX2 v_sort v_value v_name v_pending v_loopable v_rowFirst v_rowLast v_rowCount v_choiceFirst v_choiceLast v_choiceCount))])) (va_Qv (fun (u : Nat) => u = 0) (fun (_ : Nat) (t : State) => ∃ (ov_sort : Int32), ∃ (ov_value : Int32), ∃ (ov_name : Int32), ∃ (ov_pending : Int32), ∃ (ov_loopable : Bool), ∃ (ov_rowFirst : Int32), ∃ (ov_rowLast : Int32), ∃ (ov_rowCount : Int32), ∃ (ov_choiceFirst : Int32), ∃ (ov_choiceLast : Int32), ∃ (ov_choiceCount : Int32), (Q ov_sort ov_value ov_name ov_pending ov_loopable ov_rowFirst ov_rowLast ov_rowCount ov_choiceFirst ov_choiceLast ov_choiceCount) ∧ va_P (dC, dI) vwCl [(h0, .inr (5, oX2 ov_sort ov_value ov_name ov_pending ov_loopable ov_rowFirst ov_rowLast ov_rowCount ov_choiceFirst ov_choiceLast ov_choiceCount))] t.heap ∧ va_D (va_A [(h0, .inr (5, oX2 v_sort v_value v_name v_pending v_loopable v_rowFirst v_rowLast v_rowCount v_choiceFirst v_choiceLast v_choiceCount))] sz) [(h0, .inr (5, oX2 ov_sort ov_value ov_name ov_pending ov_loopable ov_rowFirst ov_rowLast ov_rowCount ov_choiceFirst ov_choiceLast ov_choiceCount))]) (va_A [(h0, .inr (5, oX2 v_sort v_value v_name v_pending v_loopable v_rowFirst v_rowLast v_rowCount v_choiceFirst v_choiceLast v_choiceCount))] sz)) 0 0 (va_A [(h0, .inr (5, oX2 v_sort v_value v_name v_pending v_loopable v_rowFirst v_rowLast v_rowCount v_choiceFirst v_choiceLast v_choiceCount))] sz) := by
  refine Met.ofW (cc := cX2_begin) (maxL := 4) (ret := none) (by decide) rfl ?_
  intro p e s m args below meth c s₁ B hml hv
  obtain ⟨rfl, hsz, hP, hK, hD0⟩ := hv
  have hx := B.exec
  have hb := B.bytes
  have hr := B.returns
  have hts := atoms_spec (ws := WS yX2_begin cX2_begin 4 none) B.pre
  have ht : ∀ w ∈ TW, w.before _ s = true := fun w h => hts w (List.mem_cons_of_mem _ h)
  have hown : s.vm.findClass "PatternWorkshop$Group" = some m.cls := findClass_of_methodNamed B.named
  have hlocks := B.notSynchronized
  subst hsz
  have hD := hD0.self (sz := s.heap.size)
  generalize hAe : va_A [(h0, .inr (5, oX2 v_sort v_value v_name v_pending v_loopable v_rowFirst v_rowLast v_rowCount v_choiceFirst v_choiceLast v_choiceCount))] s.heap.size = A at hD ⊢
  have hA : ∀ q : Nat, s.heap.size ≤ q → A q := fun q h => by rw [← hAe]; exact Or.inr h
  have hS : va_S A s.heap s.heap [] := va_S.rf
  have hP : va_P (dC, dI) vwCl [(h0, .inr (5, oX2 v_sort v_value v_name v_pending v_loopable v_rowFirst v_rowLast v_rowCount v_choiceFirst v_choiceLast v_choiceCount))] s.heap := hP
  have hl := lv_entry ([.ref h0, .int p1, .int p2, .int p3]) (n := 4) (Nat.le_of_ble_eq_true rfl)
  rw [lg_entry_eq]
  generalize (lg_sl ([.ref h0, .int p1, .int p2, .int p3]) ++ List.replicate (4 - (lg_sl ([.ref h0, .int p1, .int p2, .int p3])).length) Slot.unset).toArray = ls at hl ⊢
  have hl : lv_has ls 4 [(0, .ref h0), (1, .int p1), (2, .int p2), (3, .int p3)] := hl
  clear hD0
  obtain ⟨QQ, hQQ⟩ : ∃ QQ, QQ = MQ below (va_Qv (fun (u : Nat) => u = 0) (fun (_ : Nat) (t : State) => ∃ (ov_sort : Int32), ∃ (ov_value : Int32), ∃ (ov_name : Int32), ∃ (ov_pending : Int32), ∃ (ov_loopable : Bool), ∃ (ov_rowFirst : Int32), ∃ (ov_rowLast : Int32), ∃ (ov_rowCount : Int32), ∃ (ov_choiceFirst : Int32), ∃ (ov_choiceLast : Int32), ∃ (ov_choiceCount : Int32), (Q ov_sort ov_value ov_name ov_pending ov_loopable ov_rowFirst ov_rowLast ov_rowCount ov_choiceFirst ov_choiceLast ov_choiceCount) ∧ va_P (dC, dI) vwCl [(h0, .inr (5, oX2 ov_sort ov_value ov_name ov_pending ov_loopable ov_rowFirst ov_rowLast ov_rowCount ov_choiceFirst ov_choiceLast ov_choiceCount))] t.heap ∧ va_D A [(h0, .inr (5, oX2 ov_sort ov_value ov_name ov_pending ov_loopable ov_rowFirst ov_rowLast ov_rowCount ov_choiceFirst ov_choiceLast ov_choiceCount))]) A) ([.ref h0, .int p1, .int p2, .int p3]).toArray s 0 0 A := ⟨_, rfl⟩
  show W p l e ({ frames := 1, cells := 0, slots := 0, locals := 20 } : Room) s m ([.ref h0, .int p1, .int p2, .int p3]).toArray below meth c s.heap [] 0 0 (MQ below (va_Qv (fun (u : Nat) => u = 0) (fun (_ : Nat) (t : State) => ∃ (ov_sort : Int32), ∃ (ov_value : Int32), ∃ (ov_name : Int32), ∃ (ov_pending : Int32), ∃ (ov_loopable : Bool), ∃ (ov_rowFirst : Int32), ∃ (ov_rowLast : Int32), ∃ (ov_rowCount : Int32), ∃ (ov_choiceFirst : Int32), ∃ (ov_choiceLast : Int32), ∃ (ov_choiceCount : Int32), (Q ov_sort ov_value ov_name ov_pending ov_loopable ov_rowFirst ov_rowLast ov_rowCount ov_choiceFirst ov_choiceLast ov_choiceCount) ∧ va_P (dC, dI) vwCl [(h0, .inr (5, oX2 ov_sort ov_value ov_name ov_pending ov_loopable ov_rowFirst ov_rowLast ov_rowCount ov_choiceFirst ov_choiceLast ov_choiceCount))] t.heap ∧ va_D A [(h0, .inr (5, oX2 ov_sort ov_value ov_name ov_pending ov_loopable ov_rowFirst ov_rowLast ov_rowCount ov_choiceFirst ov_choiceLast ov_choiceCount))]) A) ([.ref h0, .int p1, .int p2, .int p3]).toArray s 0 0 A) (F0 m 0 ls [])
  rw [← hQQ]
  unfold w_X2_begin at w
  refine lv_aload_n hx hb dX2_begin_0 rfl (lv_at hl 0 rfl) ?_
  refine lv_iload_n hx hb dX2_begin_1 rfl (lv_at hl 1 rfl) ?_
  refine va_put (D := (dC, dI)) (ci := 5) (v := .int p1) (ty := .int) (C := RX2) (T := TX2) (N := 11) hx hb ht inX2 tyX2 tyX2_ok nmX2 hown hK hP hD hS 0 rfl rfl 0 (by decide) (ht _ tw_390) (fun _ h9 => h9) rfl (by decide +kernel) rfl rfl (Nat.le_of_ble_eq_true rfl) dX2_begin_2 (fun H_1 locs_1 hP_1 hD_1 hS_1 => ?_)
  have hP_1 : va_P (dC, dI) vwCl [(h0, .inr (5, oX2 p1 v_value v_name v_pending v_loopable v_rowFirst v_rowLast v_rowCount v_choiceFirst v_choiceLast v_choiceCount))] H_1 := hP_1
  have hD_1 : va_D A [(h0, .inr (5, oX2 p1 v_value v_name v_pending v_loopable v_rowFirst v_rowLast v_rowCount v_choiceFirst v_choiceLast v_choiceCount))] := hD_1
  refine lv_aload_n hx hb dX2_begin_5 rfl (lv_at hl 0 rfl) ?_
  refine lv_iload_n hx hb dX2_begin_6 rfl (lv_at hl 2 rfl) ?_
  refine va_put (D := (dC, dI)) (ci := 5) (v := .int p2) (ty := .int) (C := RX2) (T := TX2) (N := 11) hx hb ht inX2 tyX2 tyX2_ok nmX2 hown hK hP_1 hD_1 hS_1 0 rfl rfl 1 (by decide) (ht _ tw_392) (fun _ h9 => h9) rfl (by decide +kernel) rfl rfl (Nat.le_of_ble_eq_true rfl) dX2_begin_7 (fun H_2 locs_2 hP_2 hD_2 hS_2 => ?_)
  have hP_2 : va_P (dC, dI) vwCl [(h0, .inr (5, oX2 p1 p2 v_name v_pending v_loopable v_rowFirst v_rowLast v_rowCount v_choiceFirst v_choiceLast v_choiceCount))] H_2 := hP_2
  have hD_2 : va_D A [(h0, .inr (5, oX2 p1 p2 v_name v_pending v_loopable v_rowFirst v_rowLast v_rowCount v_choiceFirst v_choiceLast v_choiceCount))] := hD_2
  refine lv_aload_n hx hb dX2_begin_10 rfl (lv_at hl 0 rfl) ?_
  refine lv_iload_n hx hb dX2_begin_11 rfl (lv_at hl 3 rfl) ?_
  refine va_put (D := (dC, dI)) (ci := 5) (v := .int p3) (ty := .int) (C := RX2) (T := TX2) (N := 11) hx hb ht inX2 tyX2 tyX2_ok nmX2 hown hK hP_2 hD_2 hS_2 0 rfl rfl 2 (by decide) (ht _ tw_394) (fun _ h9 => h9) rfl (by decide +kernel) rfl rfl (Nat.le_of_ble_eq_true rfl) dX2_begin_12 (fun H_3 locs_3 hP_3 hD_3 hS_3 => ?_)
  have hP_3 : va_P (dC, dI) vwCl [(h0, .inr (5, oX2 p1 p2 p3 v_pending v_loopable v_rowFirst v_rowLast v_rowCount v_choiceFirst v_choiceLast v_choiceCount))] H_3 := hP_3
  have hD_3 : va_D A [(h0, .inr (5, oX2 p1 p2 p3 v_pending v_loopable v_rowFirst v_rowLast v_rowCount v_choiceFirst v_choiceLast v_choiceCount))] := hD_3
  refine lv_aload_n hx hb dX2_begin_15 rfl (lv_at hl 0 rfl) ?_
  refine lv_iconst (v := (-1)) hx hb dX2_begin_16 (by decide) ?_
  refine va_put (D := (dC, dI)) (ci := 5) (v := .int (-1)) (ty := .int) (C := RX2) (T := TX2) (N := 11) hx hb ht inX2 tyX2 tyX2_ok nmX2 hown hK hP_3 hD_3 hS_3 0 rfl rfl 8 (by decide) (ht _ tw_406) (fun _ h9 => h9) rfl (by decide +kernel) rfl rfl (Nat.le_of_ble_eq_true rfl) dX2_begin_17 (fun H_4 locs_4 hP_4 hD_4 hS_4 => ?_)
  have hP_4 : va_P (dC, dI) vwCl [(h0, .inr (5, oX2 p1 p2 p3 v_pending v_loopable v_rowFirst v_rowLast v_rowCount (-1) v_choiceLast v_choiceCount))] H_4 := hP_4
  have hD_4 : va_D A [(h0, .inr (5, oX2 p1 p2 p3 v_pending v_loopable v_rowFirst v_rowLast v_rowCount (-1) v_choiceLast v_choiceCount))] := hD_4
  refine lv_aload_n hx hb dX2_begin_20 rfl (lv_at hl 0 rfl) ?_
  refine lv_iconst (v := (-1)) hx hb dX2_begin_21 (by decide) ?_
  refine va_put (D := (dC, dI)) (ci := 5) (v := .int (-1)) (ty := .int) (C := RX2) (T := TX2) (N := 11) hx hb ht inX2 tyX2 tyX2_ok nmX2 hown hK hP_4 hD_4 hS_4 0 rfl rfl 9 (by decide) (ht _ tw_408) (fun _ h9 => h9) rfl (by decide +kernel) rfl rfl (Nat.le_of_ble_eq_true rfl) dX2_begin_22 (fun H_5 locs_5 hP_5 hD_5 hS_5 => ?_)
  have hP_5 : va_P (dC, dI) vwCl [(h0, .inr (5, oX2 p1 p2 p3 v_pending v_loopable v_rowFirst v_rowLast v_rowCount (-1) (-1) v_choiceCount))] H_5 := hP_5
  have hD_5 : va_D A [(h0, .inr (5, oX2 p1 p2 p3 v_pending v_loopable v_rowFirst v_rowLast v_rowCount (-1) (-1) v_choiceCount))] := hD_5
  refine lv_aload_n hx hb dX2_begin_25 rfl (lv_at hl 0 rfl) ?_
  refine lv_iconst (v := 0) hx hb dX2_begin_26 (by decide) ?_
  refine va_put (D := (dC, dI)) (ci := 5) (v := .int 0) (ty := .int) (C := RX2) (T := TX2) (N := 11) hx hb ht inX2 tyX2 tyX2_ok nmX2 hown hK hP_5 hD_5 hS_5 0 rfl rfl 10 (by decide) (ht _ tw_410) (fun _ h9 => h9) rfl (by decide +kernel) rfl rfl (Nat.le_of_ble_eq_true rfl) dX2_begin_27 (fun H_6 locs_6 hP_6 hD_6 hS_6 => ?_)
  have hP_6 : va_P (dC, dI) vwCl [(h0, .inr (5, oX2 p1 p2 p3 v_pending v_loopable v_rowFirst v_rowLast v_rowCount (-1) (-1) 0))] H_6 := hP_6
  have hD_6 : va_D A [(h0, .inr (5, oX2 p1 p2 p3 v_pending v_loopable v_rowFirst v_rowLast v_rowCount (-1) (-1) 0))] := hD_6
  refine lv_aload_n hx hb dX2_begin_30 rfl (lv_at hl 0 rfl) ?_
  have hPc_7 := hP_6.sub (ws' := [(h0, .inr (5, oX2 p1 p2 p3 v_pending v_loopable v_rowFirst v_rowLast v_rowCount (-1) (-1) 0))]) [0] rfl
  have hDc_7 := hD_6.sub (ws' := [(h0, .inr (5, oX2 p1 p2 p3 v_pending v_loopable v_rowFirst v_rowLast v_rowCount (-1) (-1) 0))]) [0] (by decide) rfl
  have hKc_7 := hK.sub (tys' := []) [] rfl
  have hFc_7 := va_free (wc := [(h0, .inr (5, oX2 p1 p2 p3 v_pending v_loopable v_rowFirst v_rowLast v_rowCount (-1) (-1) 0))]) hD_6 hS_6 hA [0] rfl
  refine va_callv (va_runV (As := []) (rest := []) ⟨hx, hb, hml, hown, ht⟩ (mt_X2_beginRow l dC dI h0 p1 p2 p3 v_pending v_loopable v_rowFirst v_rowLast v_rowCount (-1) (-1) 0 _ w H_6.size) (cwV 0 ht (goodV tw_899 tw_900 tw_901 tw_241 gw_X2_beginRow) rfl rfl rfl (by decide +kernel) ⟨Nat.le_of_ble_eq_true rfl, Nat.le_of_ble_eq_true rfl⟩) ⟨fun a U g mk q => by obtain ⟨q0, q1, qP, qK, qD⟩ := q; exact ⟨q0, q1, qP, va_K.moved (u := U) (U := U.calling g mk a) (Vm.Alike.refl U.vm) qK, qD⟩, va_recv hKc_7 hPc_7 (ci := 5) (q0 := 0) rfl rfl, fun U hU hW => ⟨rfl, by rw [hU], by rw [hU]; exact hPc_7, va_K.moved hW.alike hKc_7, hDc_7.weaken (fun _ _ _ _ => trivial)⟩⟩ rfl rfl hl.1 rfl (lv_room (Nat.le_of_ble_eq_true rfl)) dX2_begin_31 ⟨Nat.le_of_ble_eq_true rfl, Nat.le_of_ble_eq_true rfl⟩) hS_6 (fun q _ h => hFc_7 q h) hFc_7 (fun u_7 t_7 H_7 locs_7 ht_7 hvm_7 hw_7 hB_7 hz_7 hk_7 hS_7 => ?_)
  subst hw_7
  obtain ⟨r_7_0, r_7_1, r_7_2, r_7_3, r_7_4, w_7, hP1_7, hD1_7⟩ := hB_7
  rw [ht_7] at hP1_7
  obtain ⟨hP_7, hD_7⟩ := va_join (wr := []) (w1 := [(h0, .inr (5, oX2 p1 p2 p3 r_7_0 r_7_1 r_7_2 r_7_3 r_7_4 (-1) (-1) 0))]) hP_6 hD_6 [0] [] rfl rfl (by decide) (by decide) hk_7 hFc_7 hP1_7 hD1_7
  have hP_7 := hP_7.sub (ws' := [(h0, .inr (5, oX2 p1 p2 p3 r_7_0 r_7_1 r_7_2 r_7_3 r_7_4 (-1) (-1) 0))]) [0] rfl
  have hD_7 := hD_7.sub (ws' := [(h0, .inr (5, oX2 p1 p2 p3 r_7_0 r_7_1 r_7_2 r_7_3 r_7_4 (-1) (-1) 0))]) [0] (by decide) rfl
  clear hPc_7 hDc_7 hKc_7 hFc_7 hP1_7 hD1_7 hk_7 hz_7
  rw [hQQ]
  exact W.vret hx hb hr (fun t9 ht9 hW9 => ⟨⟨0, rfl, rfl, ⟨p1, p2, p3, r_7_0, r_7_1, r_7_2, r_7_3, r_7_4, (-1), (-1), 0, w_7, by rw [ht9]; exact hP_7, hD_7⟩⟩, hS_7.F ht9⟩) hS_7.2.2 dX2_begin_34
def w_X0_addBegin_70 (Q : Int32 → (Nat → Int32) → Prop) (v_count_70 : Int32) (v_begins_70 : Nat → Int32) : Prop :=
  Q  v_count_70 v_begins_70
def w_X0_addBegin_77B (p1 : Int32) (Q : Int32 → (Nat → Int32) → Prop) (K77 : Int32 → (Nat → Int32) → Prop) (l2_77 : Int32) (v_count_77 : Int32) (l4_77 : Int32) (v_begins_77 : Nat → Int32) : Prop :=
  ((l4_77 ≤ l2_77) → vp_in l2_77 256 ∧ ∀ g_8 : Nat → Int32, g_8 = upd v_begins_77 l2_77.toNatClampNeg p1 → ∀ x_9 : Int32, x_9 = v_count_77 + (1 : Int32) → Q  x_9 g_8) ∧ ((¬ l4_77 ≤ l2_77) → ∀ x_11 : Int32, x_11 = l4_77 - (1 : Int32) → vp_in x_11 256 ∧ ∀ x_12 : Int32, x_12 = v_begins_77 x_11.toNatClampNeg → vp_in l4_77 256 ∧ ∀ g_13 : Nat → Int32, g_13 = upd v_begins_77 l4_77.toNatClampNeg x_12 → ∀ x_14 : Int32, x_14 = l4_77 + (-1) → K77 x_14 g_13)
def w_X0_addBegin_77 (p1 : Int32) (Q : Int32 → (Nat → Int32) → Prop) (l2_77 : Int32) (v_count_77 : Int32) : Nat → Int32 → (Nat → Int32) → Prop
  | 0, _, _ => False
  | n9 + 1, l4_77, v_begins_77 => w_X0_addBegin_77B p1 Q (w_X0_addBegin_77 p1 Q l2_77 v_count_77 n9) l2_77 v_count_77 l4_77 v_begins_77
def w_X0_addBegin_49 (p1 : Int32) (Q : Int32 → (Nat → Int32) → Prop) (s0_49 : Int32) (l2_49 : Int32) (v_count_49 : Int32) (v_begins_49 : Nat → Int32) : Prop :=
  ((¬ s0_49 = 0) → w_X0_addBegin_70 Q v_count_49 v_begins_49) ∧ ((s0_49 = 0) → ((65535 < p1) → w_X0_addBegin_70 Q v_count_49 v_begins_49) ∧ ((¬ 65535 < p1) → ((v_count_49 < 256) → ∃ k9 : Nat, w_X0_addBegin_77 p1 Q l2_49 v_count_49 k9 v_count_49 v_begins_49) ∧ ((¬ v_count_49 < 256) → w_X0_addBegin_70 Q v_count_49 v_begins_49)))
def w_X0_addBegin_48 (p1 : Int32) (Q : Int32 → (Nat → Int32) → Prop) (l2_48 : Int32) (v_count_48 : Int32) (v_begins_48 : Nat → Int32) : Prop :=
  w_X0_addBegin_49 p1 Q 0 l2_48 v_count_48 v_begins_48
def w_X0_addBegin_26 (p1 : Int32) (Q : Int32 → (Nat → Int32) → Prop) (l2_26 : Int32) (v_count_26 : Int32) (v_begins_26 : Nat → Int32) : Prop :=
  ((v_count_26 ≤ l2_26) → w_X0_addBegin_48 p1 Q l2_26 v_count_26 v_begins_26) ∧ ((¬ v_count_26 ≤ l2_26) → vp_in l2_26 256 ∧ ∀ x_18 : Int32, x_18 = v_begins_26 l2_26.toNatClampNeg → ((¬ x_18 = p1) → w_X0_addBegin_48 p1 Q l2_26 v_count_26 v_begins_26) ∧ ((x_18 = p1) → w_X0_addBegin_49 p1 Q 1 l2_26 v_count_26 v_begins_26))
def w_X0_addBegin_2B (p1 : Int32) (Q : Int32 → (Nat → Int32) → Prop) (K2 : Int32 → Prop) (v_count_2 : Int32) (v_begins_2 : Nat → Int32) (l2_2 : Int32) : Prop :=
  ((v_count_2 ≤ l2_2) → w_X0_addBegin_26 p1 Q l2_2 v_count_2 v_begins_2) ∧ ((¬ v_count_2 ≤ l2_2) → vp_in l2_2 256 ∧ ∀ x_21 : Int32, x_21 = v_begins_2 l2_2.toNatClampNeg → ((p1 ≤ x_21) → w_X0_addBegin_26 p1 Q l2_2 v_count_2 v_begins_2) ∧ ((¬ p1 ≤ x_21) → ∀ x_23 : Int32, x_23 = l2_2 + 1 → K2 x_23))
def w_X0_addBegin_2 (p1 : Int32) (Q : Int32 → (Nat → Int32) → Prop) (v_count_2 : Int32) (v_begins_2 : Nat → Int32) : Nat → Int32 → Prop
  | 0, _ => False
  | n9 + 1, l2_2 => w_X0_addBegin_2B p1 Q (w_X0_addBegin_2 p1 Q v_count_2 v_begins_2 n9) v_count_2 v_begins_2 l2_2
def w_X0_addBegin (p1 : Int32) (v_count : Int32) (v_begins : Nat → Int32) (Q : Int32 → (Nat → Int32) → Prop) : Prop :=
  ∃ k9 : Nat, w_X0_addBegin_2 p1 Q v_count v_begins k9 0
set_option maxHeartbeats 4000000 in
set_option maxRecDepth 100000 in
theorem mt_X0_addBegin (l : Launch) (dC : Nat → ClassId) (dI : Nat → Nat → Nat) (h0 h1 : Nat) (k0 : ClassId) (p1 : Int32) (v_count : Int32) (v_begins : Nat → Int32) (Q : Int32 → (Nat → Int32) → Prop) (w : w_X0_addBegin p1 v_count v_begins Q) (sz : Nat) : Met l yX0_addBegin (WS yX0_addBegin cX0_addBegin 5 none) ({ frames := 0, cells := 0, slots := 0, locals := 0 } : Room) (va_Pc [.ref h0, .int p1] (fun U => U.heap.size = sz ∧ va_P (dC, dI) vwCl [(h0, .inr (3, oX0 v_count (.ref h1))), (h1, .inl (k0, 256, .inl v_begins))] U.heap ∧ va_K (dC, dI) vwCl [(k0, .int)] U ∧ va_D (fun _ => True) [(h0, .inr (3, oX0 v_count (.ref h1))), (h1, .inl (k0, 256, .inl v_begins))])) (va_Qv (fun (u : Nat) => u = 0) (fun (_ : Nat) (t : State) => ∃ (ov_count : Int32), ∃ (ov_begins : Nat → Int32), (Q ov_count ov_begins) ∧ va_P (dC, dI) vwCl [(h0, .inr (3, oX0 ov_count (.ref h1))), (h1, .inl (k0, 256, .inl ov_begins))] t.heap ∧ va_D (va_A [(h0, .inr (3, oX0 v_count (.ref h1))), (h1, .inl (k0, 256, .inl v_begins))] sz) [(h0, .inr (3, oX0 ov_count (.ref h1))), (h1, .inl (k0, 256, .inl ov_begins))]) (va_A [(h0, .inr (3, oX0 v_count (.ref h1))), (h1, .inl (k0, 256, .inl v_begins))] sz)) 0 0 (va_A [(h0, .inr (3, oX0 v_count (.ref h1))), (h1, .inl (k0, 256, .inl v_begins))] sz) := by
  refine Met.ofW (cc := cX0_addBegin) (maxL := 5) (ret := none) (by decide) rfl ?_
  intro p e s m args below meth c s₁ B hml hv
  obtain ⟨rfl, hsz, hP, hK, hD0⟩ := hv
  have hx := B.exec
  have hb := B.bytes
  have hr := B.returns
  have hts := atoms_spec (ws := WS yX0_addBegin cX0_addBegin 5 none) B.pre
  have ht : ∀ w ∈ TW, w.before _ s = true := fun w h => hts w (List.mem_cons_of_mem _ h)
  have hown : s.vm.findClass "PatternWorkshop$Alphabet" = some m.cls := findClass_of_methodNamed B.named
  have hlocks := B.notSynchronized
  subst hsz
  have hD := hD0.self (sz := s.heap.size)
  generalize hAe : va_A [(h0, .inr (3, oX0 v_count (.ref h1))), (h1, .inl (k0, 256, .inl v_begins))] s.heap.size = A at hD ⊢
  have hA : ∀ q : Nat, s.heap.size ≤ q → A q := fun q h => by rw [← hAe]; exact Or.inr h
  have hS : va_S A s.heap s.heap [] := va_S.rf
  have hP : va_P (dC, dI) vwCl [(h0, .inr (3, oX0 v_count (.ref h1))), (h1, .inl (k0, 256, .inl v_begins))] s.heap := hP
  have hl := lv_entry ([.ref h0, .int p1]) (n := 5) (Nat.le_of_ble_eq_true rfl)
  rw [lg_entry_eq]
  generalize (lg_sl ([.ref h0, .int p1]) ++ List.replicate (5 - (lg_sl ([.ref h0, .int p1])).length) Slot.unset).toArray = ls at hl ⊢
  have hl : lv_has ls 5 [(0, .ref h0), (1, .int p1)] := hl
  clear hD0
  obtain ⟨QQ, hQQ⟩ : ∃ QQ, QQ = MQ below (va_Qv (fun (u : Nat) => u = 0) (fun (_ : Nat) (t : State) => ∃ (ov_count : Int32), ∃ (ov_begins : Nat → Int32), (Q ov_count ov_begins) ∧ va_P (dC, dI) vwCl [(h0, .inr (3, oX0 ov_count (.ref h1))), (h1, .inl (k0, 256, .inl ov_begins))] t.heap ∧ va_D A [(h0, .inr (3, oX0 ov_count (.ref h1))), (h1, .inl (k0, 256, .inl ov_begins))]) A) ([.ref h0, .int p1]).toArray s 0 0 A := ⟨_, rfl⟩
  show W p l e ({ frames := 0, cells := 0, slots := 0, locals := 0 } : Room) s m ([.ref h0, .int p1]).toArray below meth c s.heap [] 0 0 (MQ below (va_Qv (fun (u : Nat) => u = 0) (fun (_ : Nat) (t : State) => ∃ (ov_count : Int32), ∃ (ov_begins : Nat → Int32), (Q ov_count ov_begins) ∧ va_P (dC, dI) vwCl [(h0, .inr (3, oX0 ov_count (.ref h1))), (h1, .inl (k0, 256, .inl ov_begins))] t.heap ∧ va_D A [(h0, .inr (3, oX0 ov_count (.ref h1))), (h1, .inl (k0, 256, .inl ov_begins))]) A) ([.ref h0, .int p1]).toArray s 0 0 A) (F0 m 0 ls [])
  rw [← hQQ]
  unfold w_X0_addBegin at w
  refine lv_iconst (v := 0) hx hb dX0_addBegin_0 (by decide) ?_
  refine lv_istore_n (lv' := [(2, .int 0), (0, .ref h0), (1, .int p1)]) hx hb dX0_addBegin_1 rfl hl (by decide) rfl (fun ls_1 hl_1 => ?_)
  clear hl
  have k_2 : ∀ (v_count_2 : Int32) (v_begins_2 : Nat → Int32), ∀ n_2 : Nat, ∀ (l2_2 : Int32), ∀ (H_b2 : Heap) (locs_b2 : List Loc) (ls_b2 : Array Slot), w_X0_addBegin_2 p1 Q v_count_2 v_begins_2 n_2 l2_2 → va_P (dC, dI) vwCl [(h0, .inr (3, oX0 v_count_2 (.ref h1))), (h1, .inl (k0, 256, .inl v_begins_2))] H_b2 → va_D A [(h0, .inr (3, oX0 v_count_2 (.ref h1))), (h1, .inl (k0, 256, .inl v_begins_2))] → va_S A s.heap H_b2 locs_b2 → lv_has ls_b2 5 [(0, .ref h0), (1, .int p1), (2, .int l2_2)] → W p l e ({ frames := 0, cells := 0, slots := 0, locals := 0 } : Room) s m ([.ref h0, .int p1]).toArray below meth c H_b2 locs_b2 0 0 QQ (F0 m 2 ls_b2 []) := by
    intro v_count_2 v_begins_2
    intro n_2
    induction n_2 with
    | zero =>
      intro l2_2 H_b2 locs_b2 ls_b2 w_b2 hP_b2 hD_b2 hS_b2 hl_b2
      exact False.elim (by unfold w_X0_addBegin_2 at w_b2; exact w_b2)
    | succ n_2 ih_2 =>
      intro l2_2 H_b2 locs_b2 ls_b2 w_b2 hP_b2 hD_b2 hS_b2 hl_b2
      unfold w_X0_addBegin_2 at w_b2
      unfold w_X0_addBegin_2B at w_b2
      refine lv_iload_n hx hb dX0_addBegin_2 rfl (lv_at hl_b2 2 rfl) ?_
      refine lv_aload_n hx hb dX0_addBegin_3 rfl (lv_at hl_b2 0 rfl) ?_
      refine va_get (D := (dC, dI)) (ci := 3) (v := .int v_count_2) (C := RX0) (T := TX0) (N := 2) hx hb ht inX0 hown hK hP_b2 0 rfl rfl 0 (by decide) (ht _ tw_683) (fun _ h9 => h9) rfl dX0_addBegin_4 ?_
      have k_26 : ∀ (l2_26 : Int32) (v_count_26 : Int32) (v_begins_26 : Nat → Int32), ∀ (H_b26 : Heap) (locs_b26 : List Loc) (ls_b26 : Array Slot), w_X0_addBegin_26 p1 Q l2_26 v_count_26 v_begins_26 → va_P (dC, dI) vwCl [(h0, .inr (3, oX0 v_count_26 (.ref h1))), (h1, .inl (k0, 256, .inl v_begins_26))] H_b26 → va_D A [(h0, .inr (3, oX0 v_count_26 (.ref h1))), (h1, .inl (k0, 256, .inl v_begins_26))] → va_S A s.heap H_b26 locs_b26 → lv_has ls_b26 5 [(0, .ref h0), (1, .int p1), (2, .int l2_26)] → W p l e ({ frames := 0, cells := 0, slots := 0, locals := 0 } : Room) s m ([.ref h0, .int p1]).toArray below meth c H_b26 locs_b26 0 0 QQ (F0 m 26 ls_b26 []) := by
        intro l2_26 v_count_26 v_begins_26 H_b26 locs_b26 ls_b26 w_b26 hP_b26 hD_b26 hS_b26 hl_b26
        unfold w_X0_addBegin_26 at w_b26
        refine lv_iload_n hx hb dX0_addBegin_26 rfl (lv_at hl_b26 2 rfl) ?_
        refine lv_aload_n hx hb dX0_addBegin_27 rfl (lv_at hl_b26 0 rfl) ?_
        refine va_get (D := (dC, dI)) (ci := 3) (v := .int v_count_26) (C := RX0) (T := TX0) (N := 2) hx hb ht inX0 hown hK hP_b26 0 rfl rfl 0 (by decide) (ht _ tw_683) (fun _ h9 => h9) rfl dX0_addBegin_28 ?_
        have k_49 : ∀ (s0_49 : Int32) (l2_49 : Int32) (v_count_49 : Int32) (v_begins_49 : Nat → Int32), ∀ (H_b49 : Heap) (locs_b49 : List Loc) (ls_b49 : Array Slot), w_X0_addBegin_49 p1 Q s0_49 l2_49 v_count_49 v_begins_49 → va_P (dC, dI) vwCl [(h0, .inr (3, oX0 v_count_49 (.ref h1))), (h1, .inl (k0, 256, .inl v_begins_49))] H_b49 → va_D A [(h0, .inr (3, oX0 v_count_49 (.ref h1))), (h1, .inl (k0, 256, .inl v_begins_49))] → va_S A s.heap H_b49 locs_b49 → lv_has ls_b49 5 [(0, .ref h0), (1, .int p1), (2, .int l2_49)] → W p l e ({ frames := 0, cells := 0, slots := 0, locals := 0 } : Room) s m ([.ref h0, .int p1]).toArray below meth c H_b49 locs_b49 0 0 QQ (F0 m 49 ls_b49 [.int s0_49]) := by
          intro s0_49 l2_49 v_count_49 v_begins_49 H_b49 locs_b49 ls_b49 w_b49 hP_b49 hD_b49 hS_b49 hl_b49
          unfold w_X0_addBegin_49 at w_b49
          refine lv_istore_n (lv' := [(3, .int s0_49), (0, .ref h0), (1, .int p1), (2, .int l2_49)]) hx hb dX0_addBegin_49 rfl hl_b49 (by decide) rfl (fun ls_2 hl_2 => ?_)
          clear hl_b49
          refine lv_iload_n hx hb dX0_addBegin_50 rfl (lv_at hl_2 0 rfl) ?_
          have k_70 : ∀ (v_count_70 : Int32) (v_begins_70 : Nat → Int32), ∀ (H_b70 : Heap) (locs_b70 : List Loc) (ls_b70 : Array Slot), w_X0_addBegin_70 Q v_count_70 v_begins_70 → va_P (dC, dI) vwCl [(h0, .inr (3, oX0 v_count_70 (.ref h1))), (h1, .inl (k0, 256, .inl v_begins_70))] H_b70 → va_D A [(h0, .inr (3, oX0 v_count_70 (.ref h1))), (h1, .inl (k0, 256, .inl v_begins_70))] → va_S A s.heap H_b70 locs_b70 → lv_has ls_b70 5 [] → W p l e ({ frames := 0, cells := 0, slots := 0, locals := 0 } : Room) s m ([.ref h0, .int p1]).toArray below meth c H_b70 locs_b70 0 0 QQ (F0 m 70 ls_b70 []) := by
            intro v_count_70 v_begins_70 H_b70 locs_b70 ls_b70 w_b70 hP_b70 hD_b70 hS_b70 hl_b70
            unfold w_X0_addBegin_70 at w_b70
            rw [hQQ]
            exact W.vret hx hb hr (fun t9 ht9 hW9 => ⟨⟨0, rfl, rfl, ⟨v_count_70, v_begins_70, w_b70, by rw [ht9]; exact hP_b70, hD_b70⟩⟩, hS_b70.F ht9⟩) hS_b70.2.2 dX0_addBegin_70
          refine lv_if_ne (tgt := 70) hx hb dX0_addBegin_51 (by decide) (fun c_3 => ?_) (fun c_3 => ?_)
          · exact k_70 v_count_49 v_begins_49 _ _ _ (w_b49.1 c_3) hP_b49 hD_b49 hS_b49 (lv_sub hl_2 [] rfl)
          · refine lv_iload_n hx hb dX0_addBegin_54 rfl (lv_at hl_2 2 rfl) ?_
            refine lv_ldc hx hb hown (ht _ tw_1345) dX0_addBegin_55 ?_
            refine lv_icmp_gt (tgt := 70) hx hb dX0_addBegin_57 (by decide) (fun c_4 => ?_) (fun c_4 => ?_)
            · exact k_70 v_count_49 v_begins_49 _ _ _ ((w_b49.2 c_3).1 c_4) hP_b49 hD_b49 hS_b49 (lv_sub hl_2 [] rfl)
            · refine lv_aload_n hx hb dX0_addBegin_60 rfl (lv_at hl_2 1 rfl) ?_
              refine va_get (D := (dC, dI)) (ci := 3) (v := .int v_count_49) (C := RX0) (T := TX0) (N := 2) hx hb ht inX0 hown hK hP_b49 0 rfl rfl 0 (by decide) (ht _ tw_683) (fun _ h9 => h9) rfl dX0_addBegin_61 ?_
              refine lv_sipush (v := 256) hx hb dX0_addBegin_64 (by decide) ?_
              refine lv_icmp_lt (tgt := 71) hx hb dX0_addBegin_67 (by decide) (fun c_5 => ?_) (fun c_5 => ?_)
              · refine lv_aload_n hx hb dX0_addBegin_71 rfl (lv_at hl_2 1 rfl) ?_
                refine va_get (D := (dC, dI)) (ci := 3) (v := .int v_count_49) (C := RX0) (T := TX0) (N := 2) hx hb ht inX0 hown hK hP_b49 0 rfl rfl 0 (by decide) (ht _ tw_683) (fun _ h9 => h9) rfl dX0_addBegin_72 ?_
                refine lv_istore (lv' := [(4, .int v_count_49), (3, .int s0_49), (0, .ref h0), (1, .int p1), (2, .int l2_49)]) hx hb dX0_addBegin_75 hl_2 (by decide) rfl (fun ls_6 hl_6 => ?_)
                clear hl_2
                have k_77 : ∀ (l2_77 : Int32) (v_count_77 : Int32), ∀ n_77 : Nat, ∀ (l4_77 : Int32) (v_begins_77 : Nat → Int32), ∀ (H_b77 : Heap) (locs_b77 : List Loc) (ls_b77 : Array Slot), w_X0_addBegin_77 p1 Q l2_77 v_count_77 n_77 l4_77 v_begins_77 → va_P (dC, dI) vwCl [(h0, .inr (3, oX0 v_count_77 (.ref h1))), (h1, .inl (k0, 256, .inl v_begins_77))] H_b77 → va_D A [(h0, .inr (3, oX0 v_count_77 (.ref h1))), (h1, .inl (k0, 256, .inl v_begins_77))] → va_S A s.heap H_b77 locs_b77 → lv_has ls_b77 5 [(0, .ref h0), (1, .int p1), (2, .int l2_77), (4, .int l4_77)] → W p l e ({ frames := 0, cells := 0, slots := 0, locals := 0 } : Room) s m ([.ref h0, .int p1]).toArray below meth c H_b77 locs_b77 0 0 QQ (F0 m 77 ls_b77 []) := by
                  intro l2_77 v_count_77
                  intro n_77
                  induction n_77 with
                  | zero =>
                    intro l4_77 v_begins_77 H_b77 locs_b77 ls_b77 w_b77 hP_b77 hD_b77 hS_b77 hl_b77
                    exact False.elim (by unfold w_X0_addBegin_77 at w_b77; exact w_b77)
                  | succ n_77 ih_77 =>
                    intro l4_77 v_begins_77 H_b77 locs_b77 ls_b77 w_b77 hP_b77 hD_b77 hS_b77 hl_b77
                    unfold w_X0_addBegin_77 at w_b77
                    unfold w_X0_addBegin_77B at w_b77
                    refine lv_iload hx hb dX0_addBegin_77 (lv_at hl_b77 3 rfl) ?_
                    refine lv_iload_n hx hb dX0_addBegin_79 rfl (lv_at hl_b77 2 rfl) ?_
                    refine lv_icmp_le (tgt := 105) hx hb dX0_addBegin_80 (by decide) (fun c_7 => ?_) (fun c_7 => ?_)
                    · refine lv_aload_n hx hb dX0_addBegin_105 rfl (lv_at hl_b77 0 rfl) ?_
                      refine va_get (D := (dC, dI)) (ci := 3) (v := .ref h1) (C := RX0) (T := TX0) (N := 2) hx hb ht inX0 hown hK hP_b77 0 rfl rfl 1 (by decide) (ht _ tw_687) (fun _ h9 => h9) rfl dX0_addBegin_106 ?_
                      refine lv_iload_n hx hb dX0_addBegin_109 rfl (lv_at hl_b77 2 rfl) ?_
                      refine lv_iload_n hx hb dX0_addBegin_110 rfl (lv_at hl_b77 1 rfl) ?_
                      refine va_iast hx hb hK hP_b77 hD_b77 hS_b77 1 0 rfl rfl (i := l2_77) (w_b77.1 c_7).1 dX0_addBegin_111 (fun H_8 locs_8 hP_8 hD_8 hS_8 => ?_)
                      obtain ⟨g_8, hg_8⟩ : ∃ g : Nat → Int32, g = upd v_begins_77 l2_77.toNatClampNeg p1 := ⟨_, rfl⟩
                      have hP_8 : va_P (dC, dI) vwCl [(h0, .inr (3, oX0 v_count_77 (.ref h1))), (h1, .inl (k0, 256, .inl g_8))] H_8 := by rw [hg_8]; exact hP_8
                      have hD_8 : va_D A [(h0, .inr (3, oX0 v_count_77 (.ref h1))), (h1, .inl (k0, 256, .inl g_8))] := by rw [hg_8]; exact hD_8
                      refine lv_aload_n hx hb dX0_addBegin_112 rfl (lv_at hl_b77 0 rfl) ?_
                      refine lv_dup hx hb dX0_addBegin_113 rfl ?_
                      refine va_get (D := (dC, dI)) (ci := 3) (v := .int v_count_77) (C := RX0) (T := TX0) (N := 2) hx hb ht inX0 hown hK hP_8 0 rfl rfl 0 (by decide) (ht _ tw_683) (fun _ h9 => h9) rfl dX0_addBegin_114 ?_
                      refine lv_iconst (v := 1) hx hb dX0_addBegin_117 (by decide) ?_
                      refine lv_iadd hx hb dX0_addBegin_118 ?_
                      refine lv_topi (fun x_9 ex_9 => ?_)
                      have ex_9 : x_9 = v_count_77 + (1 : Int32) := ex_9
                      refine va_put (D := (dC, dI)) (ci := 3) (v := .int x_9) (ty := .int) (C := RX0) (T := TX0) (N := 2) hx hb ht inX0 tyX0 tyX0_ok nmX0 hown hK hP_8 hD_8 hS_8 0 rfl rfl 0 (by decide) (ht _ tw_683) (fun _ h9 => h9) rfl (by decide +kernel) rfl rfl (Nat.le_of_ble_eq_true rfl) dX0_addBegin_119 (fun H_10 locs_10 hP_10 hD_10 hS_10 => ?_)
                      have hP_10 : va_P (dC, dI) vwCl [(h0, .inr (3, oX0 x_9 (.ref h1))), (h1, .inl (k0, 256, .inl g_8))] H_10 := hP_10
                      have hD_10 : va_D A [(h0, .inr (3, oX0 x_9 (.ref h1))), (h1, .inl (k0, 256, .inl g_8))] := hD_10
                      rw [hQQ]
                      exact W.vret hx hb hr (fun t9 ht9 hW9 => ⟨⟨0, rfl, rfl, ⟨x_9, g_8, (((w_b77.1 c_7).2) g_8 hg_8) x_9 ex_9, by rw [ht9]; exact hP_10, hD_10⟩⟩, hS_10.F ht9⟩) hS_10.2.2 dX0_addBegin_122
                    · refine lv_aload_n hx hb dX0_addBegin_83 rfl (lv_at hl_b77 0 rfl) ?_
                      refine va_get (D := (dC, dI)) (ci := 3) (v := .ref h1) (C := RX0) (T := TX0) (N := 2) hx hb ht inX0 hown hK hP_b77 0 rfl rfl 1 (by decide) (ht _ tw_687) (fun _ h9 => h9) rfl dX0_addBegin_84 ?_
                      refine lv_iload hx hb dX0_addBegin_87 (lv_at hl_b77 3 rfl) ?_
                      refine lv_aload_n hx hb dX0_addBegin_89 rfl (lv_at hl_b77 0 rfl) ?_
                      refine va_get (D := (dC, dI)) (ci := 3) (v := .ref h1) (C := RX0) (T := TX0) (N := 2) hx hb ht inX0 hown hK hP_b77 0 rfl rfl 1 (by decide) (ht _ tw_687) (fun _ h9 => h9) rfl dX0_addBegin_90 ?_
                      refine lv_iload hx hb dX0_addBegin_93 (lv_at hl_b77 3 rfl) ?_
                      refine lv_iconst (v := 1) hx hb dX0_addBegin_95 (by decide) ?_
                      refine lv_isub hx hb dX0_addBegin_96 ?_
                      refine lv_topi (fun x_11 ex_11 => ?_)
                      have ex_11 : x_11 = l4_77 - (1 : Int32) := ex_11
                      refine va_iald hx hb hK hP_b77 1 0 rfl rfl (i := x_11) (w_b77.2 c_7 x_11 ex_11).1 dX0_addBegin_97 ?_
                      refine lv_topi (fun x_12 ex_12 => ?_)
                      have ex_12 : x_12 = v_begins_77 x_11.toNatClampNeg := ex_12
                      refine va_iast hx hb hK hP_b77 hD_b77 hS_b77 1 0 rfl rfl (i := l4_77) (((w_b77.2 c_7 x_11 ex_11).2) x_12 ex_12).1 dX0_addBegin_98 (fun H_13 locs_13 hP_13 hD_13 hS_13 => ?_)
                      obtain ⟨g_13, hg_13⟩ : ∃ g : Nat → Int32, g = upd v_begins_77 l4_77.toNatClampNeg x_12 := ⟨_, rfl⟩
                      have hP_13 : va_P (dC, dI) vwCl [(h0, .inr (3, oX0 v_count_77 (.ref h1))), (h1, .inl (k0, 256, .inl g_13))] H_13 := by rw [hg_13]; exact hP_13
                      have hD_13 : va_D A [(h0, .inr (3, oX0 v_count_77 (.ref h1))), (h1, .inl (k0, 256, .inl g_13))] := by rw [hg_13]; exact hD_13
                      obtain ⟨x_14, ex_14⟩ : ∃ y : Int32, y = l4_77 + (-1) := ⟨_, rfl⟩
                      refine lv_iinc (v := x_14) (lv' := [(4, .int x_14), (0, .ref h0), (1, .int p1), (2, .int l2_77)]) hx hb dX0_addBegin_99 hl_b77 (k := 3) rfl ex_14.symm (by decide) rfl (fun ls_14 hl_14 => ?_)
                      refine lv_goto (tgt := 77) hx hb dX0_addBegin_102 (by decide) ?_
                      have w_15 := (((((w_b77.2 c_7 x_11 ex_11).2) x_12 ex_12).2) g_13 hg_13) x_14 ex_14
                      exact ih_77 x_14 g_13 _ _ _ w_15 hP_13 hD_13 hS_13 (lv_sub hl_14 [1, 2, 3, 0] rfl)
                obtain ⟨n_16, w_16⟩ := ((w_b49.2 c_3).2 c_4).1 c_5
                exact k_77 l2_49 v_count_49 n_16 v_count_49 v_begins_49 _ _ _ w_16 hP_b49 hD_b49 hS_b49 (lv_sub hl_6 [2, 3, 4, 0] rfl)
              · exact k_70 v_count_49 v_begins_49 _ _ _ (((w_b49.2 c_3).2 c_4).2 c_5) hP_b49 hD_b49 hS_b49 (lv_sub hl_2 [] rfl)
        have k_48 : ∀ (l2_48 : Int32) (v_count_48 : Int32) (v_begins_48 : Nat → Int32), ∀ (H_b48 : Heap) (locs_b48 : List Loc) (ls_b48 : Array Slot), w_X0_addBegin_48 p1 Q l2_48 v_count_48 v_begins_48 → va_P (dC, dI) vwCl [(h0, .inr (3, oX0 v_count_48 (.ref h1))), (h1, .inl (k0, 256, .inl v_begins_48))] H_b48 → va_D A [(h0, .inr (3, oX0 v_count_48 (.ref h1))), (h1, .inl (k0, 256, .inl v_begins_48))] → va_S A s.heap H_b48 locs_b48 → lv_has ls_b48 5 [(0, .ref h0), (1, .int p1), (2, .int l2_48)] → W p l e ({ frames := 0, cells := 0, slots := 0, locals := 0 } : Room) s m ([.ref h0, .int p1]).toArray below meth c H_b48 locs_b48 0 0 QQ (F0 m 48 ls_b48 []) := by
          intro l2_48 v_count_48 v_begins_48 H_b48 locs_b48 ls_b48 w_b48 hP_b48 hD_b48 hS_b48 hl_b48
          unfold w_X0_addBegin_48 at w_b48
          refine lv_iconst (v := 0) hx hb dX0_addBegin_48 (by decide) ?_
          exact k_49 0 l2_48 v_count_48 v_begins_48 _ _ _ w_b48 hP_b48 hD_b48 hS_b48 (lv_sub hl_b48 [0, 1, 2] rfl)
        refine lv_icmp_ge (tgt := 48) hx hb dX0_addBegin_31 (by decide) (fun c_17 => ?_) (fun c_17 => ?_)
        · exact k_48 l2_26 v_count_26 v_begins_26 _ _ _ (w_b26.1 c_17) hP_b26 hD_b26 hS_b26 (lv_sub hl_b26 [0, 1, 2] rfl)
        · refine lv_aload_n hx hb dX0_addBegin_34 rfl (lv_at hl_b26 0 rfl) ?_
          refine va_get (D := (dC, dI)) (ci := 3) (v := .ref h1) (C := RX0) (T := TX0) (N := 2) hx hb ht inX0 hown hK hP_b26 0 rfl rfl 1 (by decide) (ht _ tw_687) (fun _ h9 => h9) rfl dX0_addBegin_35 ?_
          refine lv_iload_n hx hb dX0_addBegin_38 rfl (lv_at hl_b26 2 rfl) ?_
          refine va_iald hx hb hK hP_b26 1 0 rfl rfl (i := l2_26) (w_b26.2 c_17).1 dX0_addBegin_39 ?_
          refine lv_topi (fun x_18 ex_18 => ?_)
          have ex_18 : x_18 = v_begins_26 l2_26.toNatClampNeg := ex_18
          refine lv_iload_n hx hb dX0_addBegin_40 rfl (lv_at hl_b26 1 rfl) ?_
          refine lv_icmp_ne (tgt := 48) hx hb dX0_addBegin_41 (by decide) (fun c_19 => ?_) (fun c_19 => ?_)
          · exact k_48 l2_26 v_count_26 v_begins_26 _ _ _ ((((w_b26.2 c_17).2) x_18 ex_18).1 c_19) hP_b26 hD_b26 hS_b26 (lv_sub hl_b26 [0, 1, 2] rfl)
          · refine lv_iconst (v := 1) hx hb dX0_addBegin_44 (by decide) ?_
            refine lv_goto (tgt := 49) hx hb dX0_addBegin_45 (by decide) ?_
            exact k_49 1 l2_26 v_count_26 v_begins_26 _ _ _ ((((w_b26.2 c_17).2) x_18 ex_18).2 c_19) hP_b26 hD_b26 hS_b26 (lv_sub hl_b26 [0, 1, 2] rfl)
      refine lv_icmp_ge (tgt := 26) hx hb dX0_addBegin_7 (by decide) (fun c_20 => ?_) (fun c_20 => ?_)
      · exact k_26 l2_2 v_count_2 v_begins_2 _ _ _ (w_b2.1 c_20) hP_b2 hD_b2 hS_b2 (lv_sub hl_b2 [0, 1, 2] rfl)
      · refine lv_aload_n hx hb dX0_addBegin_10 rfl (lv_at hl_b2 0 rfl) ?_
        refine va_get (D := (dC, dI)) (ci := 3) (v := .ref h1) (C := RX0) (T := TX0) (N := 2) hx hb ht inX0 hown hK hP_b2 0 rfl rfl 1 (by decide) (ht _ tw_687) (fun _ h9 => h9) rfl dX0_addBegin_11 ?_
        refine lv_iload_n hx hb dX0_addBegin_14 rfl (lv_at hl_b2 2 rfl) ?_
        refine va_iald hx hb hK hP_b2 1 0 rfl rfl (i := l2_2) (w_b2.2 c_20).1 dX0_addBegin_15 ?_
        refine lv_topi (fun x_21 ex_21 => ?_)
        have ex_21 : x_21 = v_begins_2 l2_2.toNatClampNeg := ex_21
        refine lv_iload_n hx hb dX0_addBegin_16 rfl (lv_at hl_b2 1 rfl) ?_
        refine lv_icmp_ge (tgt := 26) hx hb dX0_addBegin_17 (by decide) (fun c_22 => ?_) (fun c_22 => ?_)
        · exact k_26 l2_2 v_count_2 v_begins_2 _ _ _ ((((w_b2.2 c_20).2) x_21 ex_21).1 c_22) hP_b2 hD_b2 hS_b2 (lv_sub hl_b2 [0, 1, 2] rfl)
        · obtain ⟨x_23, ex_23⟩ : ∃ y : Int32, y = l2_2 + 1 := ⟨_, rfl⟩
          refine lv_iinc (v := x_23) (lv' := [(2, .int x_23), (0, .ref h0), (1, .int p1)]) hx hb dX0_addBegin_20 hl_b2 (k := 2) rfl ex_23.symm (by decide) rfl (fun ls_23 hl_23 => ?_)
          refine lv_goto (tgt := 2) hx hb dX0_addBegin_23 (by decide) ?_
          have w_24 := ((((w_b2.2 c_20).2) x_21 ex_21).2 c_22) x_23 ex_23
          exact ih_2 x_23 _ _ _ w_24 hP_b2 hD_b2 hS_b2 (lv_sub hl_23 [1, 2, 0] rfl)
  obtain ⟨n_25, w_25⟩ := w
  exact k_2 v_count v_begins n_25 0 _ _ _ w_25 hP hD hS (lv_sub hl_1 [1, 2, 0] rfl)
def w_X0_addRange_96 (Q : Int32 → (Nat → Int32) → Prop) (v_count_96 : Int32) (v_begins_96 : Nat → Int32) : Prop :=
  Q  v_count_96 v_begins_96
def w_X0_addRange_54 (p1 : Int32) (p2 : Int32) (p3 : Int32) (Q : Int32 → (Nat → Int32) → Prop) (v_count_54 : Int32) (v_begins_54 : Nat → Int32) : Prop :=
  ((p3 = 0) → w_X0_addRange_96 Q v_count_54 v_begins_54) ∧ ((¬ p3 = 0) → ((122 < p1) → w_X0_addRange_96 Q v_count_54 v_begins_54) ∧ ((¬ 122 < p1) → ((p2 < 97) → w_X0_addRange_96 Q v_count_54 v_begins_54) ∧ ((¬ p2 < 97) → ∀ x_7 : Int32, x_7 = (if p1 < (97 : Int32) then (97 : Int32) else p1) → ∀ x_8 : Int32, x_8 = x_7 - (32 : Int32) → w_X0_addBegin x_8 v_count_54 v_begins_54 (fun r_9_0 r_9_1 => ∀ x_11 : Int32, x_11 = (if (122 : Int32) < p2 then (122 : Int32) else p2) → ∀ x_12 : Int32, x_12 = x_11 - (31 : Int32) → w_X0_addBegin x_12 r_9_0 r_9_1 (fun r_13_0 r_13_1 => w_X0_addRange_96 Q r_13_0 r_13_1)))))
def w_X0_addRange (p1 : Int32) (p2 : Int32) (p3 : Int32) (v_count : Int32) (v_begins : Nat → Int32) (Q : Int32 → (Nat → Int32) → Prop) : Prop :=
  w_X0_addBegin p1 v_count v_begins (fun r_1_0 r_1_1 => ∀ x_2 : Int32, x_2 = p2 + (1 : Int32) → w_X0_addBegin x_2 r_1_0 r_1_1 (fun r_3_0 r_3_1 => ((p3 = 0) → w_X0_addRange_54 p1 p2 p3 Q r_3_0 r_3_1) ∧ ((¬ p3 = 0) → ((90 < p1) → w_X0_addRange_54 p1 p2 p3 Q r_3_0 r_3_1) ∧ ((¬ 90 < p1) → ((p2 < 65) → w_X0_addRange_54 p1 p2 p3 Q r_3_0 r_3_1) ∧ ((¬ p2 < 65) → ∀ x_17 : Int32, x_17 = (if p1 < (65 : Int32) then (65 : Int32) else p1) → ∀ x_18 : Int32, x_18 = x_17 + (32 : Int32) → w_X0_addBegin x_18 r_3_0 r_3_1 (fun r_19_0 r_19_1 => ∀ x_21 : Int32, x_21 = (if (90 : Int32) < p2 then (90 : Int32) else p2) → ∀ x_22 : Int32, x_22 = x_21 + (33 : Int32) → w_X0_addBegin x_22 r_19_0 r_19_1 (fun r_23_0 r_23_1 => w_X0_addRange_54 p1 p2 p3 Q r_23_0 r_23_1)))))))
set_option maxHeartbeats 4000000 in
set_option maxRecDepth 100000 in
theorem mt_X0_addRange (l : Launch) (dC : Nat → ClassId) (dI : Nat → Nat → Nat) (h0 h1 : Nat) (k0 : ClassId) (p1 : Int32) (p2 : Int32) (p3 : Int32) (v_count : Int32) (v_begins : Nat → Int32) (Q : Int32 → (Nat → Int32) → Prop) (w : w_X0_addRange p1 p2 p3 v_count v_begins Q) (sz : Nat) : Met l yX0_addRange (WS yX0_addRange cX0_addRange 4 none) ({ frames := 1, cells := 0, slots := 0, locals := 24 } : Room) (va_Pc [.ref h0, .int p1, .int p2, .int p3] (fun U => U.heap.size = sz ∧ va_P (dC, dI) vwCl [(h0, .inr (3, oX0 v_count (.ref h1))), (h1, .inl (k0, 256, .inl v_begins))] U.heap ∧ va_K (dC, dI) vwCl [(k0, .int)] U ∧ va_D (fun _ => True) [(h0, .inr (3, oX0 v_count (.ref h1))), (h1, .inl (k0, 256, .inl v_begins))])) (va_Qv (fun (u : Nat) => u = 0) (fun (_ : Nat) (t : State) => ∃ (ov_count : Int32), ∃ (ov_begins : Nat → Int32), (Q ov_count ov_begins) ∧ va_P (dC, dI) vwCl [(h0, .inr (3, oX0 ov_count (.ref h1))), (h1, .inl (k0, 256, .inl ov_begins))] t.heap ∧ va_D (va_A [(h0, .inr (3, oX0 v_count (.ref h1))), (h1, .inl (k0, 256, .inl v_begins))] sz) [(h0, .inr (3, oX0 ov_count (.ref h1))), (h1, .inl (k0, 256, .inl ov_begins))]) (va_A [(h0, .inr (3, oX0 v_count (.ref h1))), (h1, .inl (k0, 256, .inl v_begins))] sz)) 0 0 (va_A [(h0, .inr (3, oX0 v_count (.ref h1))), (h1, .inl (k0, 256, .inl v_begins))] sz) := by
  refine Met.ofW (cc := cX0_addRange) (maxL := 4) (ret := none) (by decide) rfl ?_
  intro p e s m args below meth c s₁ B hml hv
  obtain ⟨rfl, hsz, hP, hK, hD0⟩ := hv
  have hx := B.exec
  have hb := B.bytes
  have hr := B.returns
  have hts := atoms_spec (ws := WS yX0_addRange cX0_addRange 4 none) B.pre
  have ht : ∀ w ∈ TW, w.before _ s = true := fun w h => hts w (List.mem_cons_of_mem _ h)
  have hown : s.vm.findClass "PatternWorkshop$Alphabet" = some m.cls := findClass_of_methodNamed B.named
  have hlocks := B.notSynchronized
  subst hsz
  have hD := hD0.self (sz := s.heap.size)
  generalize hAe : va_A [(h0, .inr (3, oX0 v_count (.ref h1))), (h1, .inl (k0, 256, .inl v_begins))] s.heap.size = A at hD ⊢
  have hA : ∀ q : Nat, s.heap.size ≤ q → A q := fun q h => by rw [← hAe]; exact Or.inr h
  have hS : va_S A s.heap s.heap [] := va_S.rf
  have hP : va_P (dC, dI) vwCl [(h0, .inr (3, oX0 v_count (.ref h1))), (h1, .inl (k0, 256, .inl v_begins))] s.heap := hP
  have hl := lv_entry ([.ref h0, .int p1, .int p2, .int p3]) (n := 4) (Nat.le_of_ble_eq_true rfl)
  rw [lg_entry_eq]
  generalize (lg_sl ([.ref h0, .int p1, .int p2, .int p3]) ++ List.replicate (4 - (lg_sl ([.ref h0, .int p1, .int p2, .int p3])).length) Slot.unset).toArray = ls at hl ⊢
  have hl : lv_has ls 4 [(0, .ref h0), (1, .int p1), (2, .int p2), (3, .int p3)] := hl
  clear hD0
  obtain ⟨QQ, hQQ⟩ : ∃ QQ, QQ = MQ below (va_Qv (fun (u : Nat) => u = 0) (fun (_ : Nat) (t : State) => ∃ (ov_count : Int32), ∃ (ov_begins : Nat → Int32), (Q ov_count ov_begins) ∧ va_P (dC, dI) vwCl [(h0, .inr (3, oX0 ov_count (.ref h1))), (h1, .inl (k0, 256, .inl ov_begins))] t.heap ∧ va_D A [(h0, .inr (3, oX0 ov_count (.ref h1))), (h1, .inl (k0, 256, .inl ov_begins))]) A) ([.ref h0, .int p1, .int p2, .int p3]).toArray s 0 0 A := ⟨_, rfl⟩
  show W p l e ({ frames := 1, cells := 0, slots := 0, locals := 24 } : Room) s m ([.ref h0, .int p1, .int p2, .int p3]).toArray below meth c s.heap [] 0 0 (MQ below (va_Qv (fun (u : Nat) => u = 0) (fun (_ : Nat) (t : State) => ∃ (ov_count : Int32), ∃ (ov_begins : Nat → Int32), (Q ov_count ov_begins) ∧ va_P (dC, dI) vwCl [(h0, .inr (3, oX0 ov_count (.ref h1))), (h1, .inl (k0, 256, .inl ov_begins))] t.heap ∧ va_D A [(h0, .inr (3, oX0 ov_count (.ref h1))), (h1, .inl (k0, 256, .inl ov_begins))]) A) ([.ref h0, .int p1, .int p2, .int p3]).toArray s 0 0 A) (F0 m 0 ls [])
  rw [← hQQ]
  unfold w_X0_addRange at w
  refine lv_aload_n hx hb dX0_addRange_0 rfl (lv_at hl 0 rfl) ?_
  refine lv_iload_n hx hb dX0_addRange_1 rfl (lv_at hl 1 rfl) ?_
  have hPc_1 := hP.sub (ws' := [(h0, .inr (3, oX0 v_count (.ref h1))), (h1, .inl (k0, 256, .inl v_begins))]) [0, 1] rfl
  have hDc_1 := hD.sub (ws' := [(h0, .inr (3, oX0 v_count (.ref h1))), (h1, .inl (k0, 256, .inl v_begins))]) [0, 1] (by decide) rfl
  have hKc_1 := hK.sub (tys' := [(k0, .int)]) [0] rfl
  have hFc_1 := va_free (wc := [(h0, .inr (3, oX0 v_count (.ref h1))), (h1, .inl (k0, 256, .inl v_begins))]) hD hS hA [0, 1] rfl
  refine va_callv (va_runV (As := [.int p1]) (rest := []) ⟨hx, hb, hml, hown, ht⟩ (mt_X0_addBegin l dC dI h0 h1 k0 p1 v_count v_begins _ w s.heap.size) (cwV 1 ht (goodV tw_1341 tw_1343 tw_59 tw_247 gw_X0_addBegin) rfl rfl rfl (by decide +kernel) ⟨Nat.le_of_ble_eq_true rfl, Nat.le_of_ble_eq_true rfl⟩) ⟨fun a U g mk q => by obtain ⟨q0, q1, qP, qK, qD⟩ := q; exact ⟨q0, q1, qP, va_K.moved (u := U) (U := U.calling g mk a) (Vm.Alike.refl U.vm) qK, qD⟩, va_recv hKc_1 hPc_1 (ci := 3) (q0 := 0) rfl rfl, fun U hU hW => ⟨rfl, by rw [hU], by rw [hU]; exact hPc_1, va_K.moved hW.alike hKc_1, hDc_1.weaken (fun _ _ _ _ => trivial)⟩⟩ rfl rfl hl.1 rfl (lv_room (Nat.le_of_ble_eq_true rfl)) dX0_addRange_2 ⟨Nat.le_of_ble_eq_true rfl, Nat.le_of_ble_eq_true rfl⟩) hS (fun q _ h => hFc_1 q h) hFc_1 (fun u_1 t_1 H_1 locs_1 ht_1 hvm_1 hw_1 hB_1 hz_1 hk_1 hS_1 => ?_)
  subst hw_1
  obtain ⟨r_1_0, r_1_1, w_1, hP1_1, hD1_1⟩ := hB_1
  rw [ht_1] at hP1_1
  obtain ⟨hP_1, hD_1⟩ := va_join (wr := []) (w1 := [(h0, .inr (3, oX0 r_1_0 (.ref h1))), (h1, .inl (k0, 256, .inl r_1_1))]) hP hD [0, 1] [] rfl rfl (by decide) (by decide) hk_1 hFc_1 hP1_1 hD1_1
  have hP_1 := hP_1.sub (ws' := [(h0, .inr (3, oX0 r_1_0 (.ref h1))), (h1, .inl (k0, 256, .inl r_1_1))]) [0, 1] rfl
  have hD_1 := hD_1.sub (ws' := [(h0, .inr (3, oX0 r_1_0 (.ref h1))), (h1, .inl (k0, 256, .inl r_1_1))]) [0, 1] (by decide) rfl
  clear hPc_1 hDc_1 hKc_1 hFc_1 hP1_1 hD1_1 hk_1 hz_1
  refine lv_aload_n hx hb dX0_addRange_5 rfl (lv_at hl 0 rfl) ?_
  refine lv_iload_n hx hb dX0_addRange_6 rfl (lv_at hl 2 rfl) ?_
  refine lv_iconst (v := 1) hx hb dX0_addRange_7 (by decide) ?_
  refine lv_iadd hx hb dX0_addRange_8 ?_
  refine lv_topi (fun x_2 ex_2 => ?_)
  have ex_2 : x_2 = p2 + (1 : Int32) := ex_2
  have hPc_3 := hP_1.sub (ws' := [(h0, .inr (3, oX0 r_1_0 (.ref h1))), (h1, .inl (k0, 256, .inl r_1_1))]) [0, 1] rfl
  have hDc_3 := hD_1.sub (ws' := [(h0, .inr (3, oX0 r_1_0 (.ref h1))), (h1, .inl (k0, 256, .inl r_1_1))]) [0, 1] (by decide) rfl
  have hKc_3 := hK.sub (tys' := [(k0, .int)]) [0] rfl
  have hFc_3 := va_free (wc := [(h0, .inr (3, oX0 r_1_0 (.ref h1))), (h1, .inl (k0, 256, .inl r_1_1))]) hD_1 hS_1 hA [0, 1] rfl
  refine va_callv (va_runV (As := [.int x_2]) (rest := []) ⟨hx, hb, hml, hown, ht⟩ (mt_X0_addBegin l dC dI h0 h1 k0 x_2 r_1_0 r_1_1 _ (w_1 x_2 ex_2) H_1.size) (cwV 1 ht (goodV tw_1341 tw_1343 tw_59 tw_247 gw_X0_addBegin) rfl rfl rfl (by decide +kernel) ⟨Nat.le_of_ble_eq_true rfl, Nat.le_of_ble_eq_true rfl⟩) ⟨fun a U g mk q => by obtain ⟨q0, q1, qP, qK, qD⟩ := q; exact ⟨q0, q1, qP, va_K.moved (u := U) (U := U.calling g mk a) (Vm.Alike.refl U.vm) qK, qD⟩, va_recv hKc_3 hPc_3 (ci := 3) (q0 := 0) rfl rfl, fun U hU hW => ⟨rfl, by rw [hU], by rw [hU]; exact hPc_3, va_K.moved hW.alike hKc_3, hDc_3.weaken (fun _ _ _ _ => trivial)⟩⟩ rfl rfl hl.1 rfl (lv_room (Nat.le_of_ble_eq_true rfl)) dX0_addRange_9 ⟨Nat.le_of_ble_eq_true rfl, Nat.le_of_ble_eq_true rfl⟩) hS_1 (fun q _ h => hFc_3 q h) hFc_3 (fun u_3 t_3 H_3 locs_3 ht_3 hvm_3 hw_3 hB_3 hz_3 hk_3 hS_3 => ?_)
  subst hw_3
  obtain ⟨r_3_0, r_3_1, w_3, hP1_3, hD1_3⟩ := hB_3
  rw [ht_3] at hP1_3
  obtain ⟨hP_3, hD_3⟩ := va_join (wr := []) (w1 := [(h0, .inr (3, oX0 r_3_0 (.ref h1))), (h1, .inl (k0, 256, .inl r_3_1))]) hP_1 hD_1 [0, 1] [] rfl rfl (by decide) (by decide) hk_3 hFc_3 hP1_3 hD1_3
  have hP_3 := hP_3.sub (ws' := [(h0, .inr (3, oX0 r_3_0 (.ref h1))), (h1, .inl (k0, 256, .inl r_3_1))]) [0, 1] rfl
  have hD_3 := hD_3.sub (ws' := [(h0, .inr (3, oX0 r_3_0 (.ref h1))), (h1, .inl (k0, 256, .inl r_3_1))]) [0, 1] (by decide) rfl
  clear hPc_3 hDc_3 hKc_3 hFc_3 hP1_3 hD1_3 hk_3 hz_3
  refine lv_iload_n hx hb dX0_addRange_12 rfl (lv_at hl 3 rfl) ?_
  have k_54 : ∀ (v_count_54 : Int32) (v_begins_54 : Nat → Int32), ∀ (H_b54 : Heap) (locs_b54 : List Loc) (ls_b54 : Array Slot), w_X0_addRange_54 p1 p2 p3 Q v_count_54 v_begins_54 → va_P (dC, dI) vwCl [(h0, .inr (3, oX0 v_count_54 (.ref h1))), (h1, .inl (k0, 256, .inl v_begins_54))] H_b54 → va_D A [(h0, .inr (3, oX0 v_count_54 (.ref h1))), (h1, .inl (k0, 256, .inl v_begins_54))] → va_S A s.heap H_b54 locs_b54 → lv_has ls_b54 4 [(0, .ref h0), (1, .int p1), (2, .int p2), (3, .int p3)] → W p l e ({ frames := 1, cells := 0, slots := 0, locals := 24 } : Room) s m ([.ref h0, .int p1, .int p2, .int p3]).toArray below meth c H_b54 locs_b54 0 0 QQ (F0 m 54 ls_b54 []) := by
    intro v_count_54 v_begins_54 H_b54 locs_b54 ls_b54 w_b54 hP_b54 hD_b54 hS_b54 hl_b54
    unfold w_X0_addRange_54 at w_b54
    refine lv_iload_n hx hb dX0_addRange_54 rfl (lv_at hl_b54 3 rfl) ?_
    have k_96 : ∀ (v_count_96 : Int32) (v_begins_96 : Nat → Int32), ∀ (H_b96 : Heap) (locs_b96 : List Loc) (ls_b96 : Array Slot), w_X0_addRange_96 Q v_count_96 v_begins_96 → va_P (dC, dI) vwCl [(h0, .inr (3, oX0 v_count_96 (.ref h1))), (h1, .inl (k0, 256, .inl v_begins_96))] H_b96 → va_D A [(h0, .inr (3, oX0 v_count_96 (.ref h1))), (h1, .inl (k0, 256, .inl v_begins_96))] → va_S A s.heap H_b96 locs_b96 → lv_has ls_b96 4 [] → W p l e ({ frames := 1, cells := 0, slots := 0, locals := 24 } : Room) s m ([.ref h0, .int p1, .int p2, .int p3]).toArray below meth c H_b96 locs_b96 0 0 QQ (F0 m 96 ls_b96 []) := by
      intro v_count_96 v_begins_96 H_b96 locs_b96 ls_b96 w_b96 hP_b96 hD_b96 hS_b96 hl_b96
      unfold w_X0_addRange_96 at w_b96
      rw [hQQ]
      exact W.vret hx hb hr (fun t9 ht9 hW9 => ⟨⟨0, rfl, rfl, ⟨v_count_96, v_begins_96, w_b96, by rw [ht9]; exact hP_b96, hD_b96⟩⟩, hS_b96.F ht9⟩) hS_b96.2.2 dX0_addRange_96
    refine lv_if_eq (tgt := 96) hx hb dX0_addRange_55 (by decide) (fun c_4 => ?_) (fun c_4 => ?_)
    · exact k_96 v_count_54 v_begins_54 _ _ _ (w_b54.1 c_4) hP_b54 hD_b54 hS_b54 (lv_sub hl_b54 [] rfl)
    · refine lv_iload_n hx hb dX0_addRange_58 rfl (lv_at hl_b54 1 rfl) ?_
      refine lv_bipush (v := 122) hx hb dX0_addRange_59 (by decide) ?_
      refine lv_icmp_gt (tgt := 96) hx hb dX0_addRange_61 (by decide) (fun c_5 => ?_) (fun c_5 => ?_)
      · exact k_96 v_count_54 v_begins_54 _ _ _ ((w_b54.2 c_4).1 c_5) hP_b54 hD_b54 hS_b54 (lv_sub hl_b54 [] rfl)
      · refine lv_iload_n hx hb dX0_addRange_64 rfl (lv_at hl_b54 2 rfl) ?_
        refine lv_bipush (v := 97) hx hb dX0_addRange_65 (by decide) ?_
        refine lv_icmp_lt (tgt := 96) hx hb dX0_addRange_67 (by decide) (fun c_6 => ?_) (fun c_6 => ?_)
        · exact k_96 v_count_54 v_begins_54 _ _ _ (((w_b54.2 c_4).2 c_5).1 c_6) hP_b54 hD_b54 hS_b54 (lv_sub hl_b54 [] rfl)
        · refine lv_aload_n hx hb dX0_addRange_70 rfl (lv_at hl_b54 0 rfl) ?_
          refine lv_iload_n hx hb dX0_addRange_71 rfl (lv_at hl_b54 1 rfl) ?_
          refine lv_bipush (v := 97) hx hb dX0_addRange_72 (by decide) ?_
          refine va_mmax hx hb (by rw [hml]; exact hl_b54.1.symm) hown (ht _ tw_1346) (ht _ tw_274) (ht _ tw_238) (ht _ tw_275) (Nat.le_of_ble_eq_true rfl) (Nat.le_of_ble_eq_true rfl) (Nat.le_of_ble_eq_true rfl) (Nat.le_of_ble_eq_true rfl) dX0_addRange_74 ?_
          refine lv_topi (fun x_7 ex_7 => ?_)
          have ex_7 : x_7 = (if p1 < (97 : Int32) then (97 : Int32) else p1) := ex_7
          refine lv_bipush (v := 32) hx hb dX0_addRange_77 (by decide) ?_
          refine lv_isub hx hb dX0_addRange_79 ?_
          refine lv_topi (fun x_8 ex_8 => ?_)
          have ex_8 : x_8 = x_7 - (32 : Int32) := ex_8
          have hPc_9 := hP_b54.sub (ws' := [(h0, .inr (3, oX0 v_count_54 (.ref h1))), (h1, .inl (k0, 256, .inl v_begins_54))]) [0, 1] rfl
          have hDc_9 := hD_b54.sub (ws' := [(h0, .inr (3, oX0 v_count_54 (.ref h1))), (h1, .inl (k0, 256, .inl v_begins_54))]) [0, 1] (by decide) rfl
          have hKc_9 := hK.sub (tys' := [(k0, .int)]) [0] rfl
          have hFc_9 := va_free (wc := [(h0, .inr (3, oX0 v_count_54 (.ref h1))), (h1, .inl (k0, 256, .inl v_begins_54))]) hD_b54 hS_b54 hA [0, 1] rfl
          have w_10 := ((((w_b54.2 c_4).2 c_5).2 c_6) x_7 ex_7) x_8 ex_8
          refine va_callv (va_runV (As := [.int x_8]) (rest := []) ⟨hx, hb, hml, hown, ht⟩ (mt_X0_addBegin l dC dI h0 h1 k0 x_8 v_count_54 v_begins_54 _ w_10 H_b54.size) (cwV 1 ht (goodV tw_1341 tw_1343 tw_59 tw_247 gw_X0_addBegin) rfl rfl rfl (by decide +kernel) ⟨Nat.le_of_ble_eq_true rfl, Nat.le_of_ble_eq_true rfl⟩) ⟨fun a U g mk q => by obtain ⟨q0, q1, qP, qK, qD⟩ := q; exact ⟨q0, q1, qP, va_K.moved (u := U) (U := U.calling g mk a) (Vm.Alike.refl U.vm) qK, qD⟩, va_recv hKc_9 hPc_9 (ci := 3) (q0 := 0) rfl rfl, fun U hU hW => ⟨rfl, by rw [hU], by rw [hU]; exact hPc_9, va_K.moved hW.alike hKc_9, hDc_9.weaken (fun _ _ _ _ => trivial)⟩⟩ rfl rfl hl_b54.1 rfl (lv_room (Nat.le_of_ble_eq_true rfl)) dX0_addRange_80 ⟨Nat.le_of_ble_eq_true rfl, Nat.le_of_ble_eq_true rfl⟩) hS_b54 (fun q _ h => hFc_9 q h) hFc_9 (fun u_9 t_9 H_9 locs_9 ht_9 hvm_9 hw_9 hB_9 hz_9 hk_9 hS_9 => ?_)
          subst hw_9
          obtain ⟨r_9_0, r_9_1, w_9, hP1_9, hD1_9⟩ := hB_9
          rw [ht_9] at hP1_9
          obtain ⟨hP_9, hD_9⟩ := va_join (wr := []) (w1 := [(h0, .inr (3, oX0 r_9_0 (.ref h1))), (h1, .inl (k0, 256, .inl r_9_1))]) hP_b54 hD_b54 [0, 1] [] rfl rfl (by decide) (by decide) hk_9 hFc_9 hP1_9 hD1_9
          have hP_9 := hP_9.sub (ws' := [(h0, .inr (3, oX0 r_9_0 (.ref h1))), (h1, .inl (k0, 256, .inl r_9_1))]) [0, 1] rfl
          have hD_9 := hD_9.sub (ws' := [(h0, .inr (3, oX0 r_9_0 (.ref h1))), (h1, .inl (k0, 256, .inl r_9_1))]) [0, 1] (by decide) rfl
          clear hPc_9 hDc_9 hKc_9 hFc_9 hP1_9 hD1_9 hk_9 hz_9
          refine lv_aload_n hx hb dX0_addRange_83 rfl (lv_at hl_b54 0 rfl) ?_
          refine lv_iload_n hx hb dX0_addRange_84 rfl (lv_at hl_b54 2 rfl) ?_
          refine lv_bipush (v := 122) hx hb dX0_addRange_85 (by decide) ?_
          refine va_mmin hx hb (by rw [hml]; exact hl_b54.1.symm) hown (ht _ tw_1347) (ht _ tw_1114) (ht _ tw_238) (ht _ tw_1115) (Nat.le_of_ble_eq_true rfl) (Nat.le_of_ble_eq_true rfl) (Nat.le_of_ble_eq_true rfl) (Nat.le_of_ble_eq_true rfl) dX0_addRange_87 ?_
          refine lv_topi (fun x_11 ex_11 => ?_)
          have ex_11 : x_11 = (if (122 : Int32) < p2 then (122 : Int32) else p2) := ex_11
          refine lv_bipush (v := 31) hx hb dX0_addRange_90 (by decide) ?_
          refine lv_isub hx hb dX0_addRange_92 ?_
          refine lv_topi (fun x_12 ex_12 => ?_)
          have ex_12 : x_12 = x_11 - (31 : Int32) := ex_12
          have hPc_13 := hP_9.sub (ws' := [(h0, .inr (3, oX0 r_9_0 (.ref h1))), (h1, .inl (k0, 256, .inl r_9_1))]) [0, 1] rfl
          have hDc_13 := hD_9.sub (ws' := [(h0, .inr (3, oX0 r_9_0 (.ref h1))), (h1, .inl (k0, 256, .inl r_9_1))]) [0, 1] (by decide) rfl
          have hKc_13 := hK.sub (tys' := [(k0, .int)]) [0] rfl
          have hFc_13 := va_free (wc := [(h0, .inr (3, oX0 r_9_0 (.ref h1))), (h1, .inl (k0, 256, .inl r_9_1))]) hD_9 hS_9 hA [0, 1] rfl
          refine va_callv (va_runV (As := [.int x_12]) (rest := []) ⟨hx, hb, hml, hown, ht⟩ (mt_X0_addBegin l dC dI h0 h1 k0 x_12 r_9_0 r_9_1 _ (w_9 x_11 ex_11 x_12 ex_12) H_9.size) (cwV 1 ht (goodV tw_1341 tw_1343 tw_59 tw_247 gw_X0_addBegin) rfl rfl rfl (by decide +kernel) ⟨Nat.le_of_ble_eq_true rfl, Nat.le_of_ble_eq_true rfl⟩) ⟨fun a U g mk q => by obtain ⟨q0, q1, qP, qK, qD⟩ := q; exact ⟨q0, q1, qP, va_K.moved (u := U) (U := U.calling g mk a) (Vm.Alike.refl U.vm) qK, qD⟩, va_recv hKc_13 hPc_13 (ci := 3) (q0 := 0) rfl rfl, fun U hU hW => ⟨rfl, by rw [hU], by rw [hU]; exact hPc_13, va_K.moved hW.alike hKc_13, hDc_13.weaken (fun _ _ _ _ => trivial)⟩⟩ rfl rfl hl_b54.1 rfl (lv_room (Nat.le_of_ble_eq_true rfl)) dX0_addRange_93 ⟨Nat.le_of_ble_eq_true rfl, Nat.le_of_ble_eq_true rfl⟩) hS_9 (fun q _ h => hFc_13 q h) hFc_13 (fun u_13 t_13 H_13 locs_13 ht_13 hvm_13 hw_13 hB_13 hz_13 hk_13 hS_13 => ?_)
          subst hw_13
          obtain ⟨r_13_0, r_13_1, w_13, hP1_13, hD1_13⟩ := hB_13
          rw [ht_13] at hP1_13
          obtain ⟨hP_13, hD_13⟩ := va_join (wr := []) (w1 := [(h0, .inr (3, oX0 r_13_0 (.ref h1))), (h1, .inl (k0, 256, .inl r_13_1))]) hP_9 hD_9 [0, 1] [] rfl rfl (by decide) (by decide) hk_13 hFc_13 hP1_13 hD1_13
          have hP_13 := hP_13.sub (ws' := [(h0, .inr (3, oX0 r_13_0 (.ref h1))), (h1, .inl (k0, 256, .inl r_13_1))]) [0, 1] rfl
          have hD_13 := hD_13.sub (ws' := [(h0, .inr (3, oX0 r_13_0 (.ref h1))), (h1, .inl (k0, 256, .inl r_13_1))]) [0, 1] (by decide) rfl
          clear hPc_13 hDc_13 hKc_13 hFc_13 hP1_13 hD1_13 hk_13 hz_13
          exact k_96 r_13_0 r_13_1 _ _ _ w_13 hP_13 hD_13 hS_13 (lv_sub hl_b54 [] rfl)
  refine lv_if_eq (tgt := 54) hx hb dX0_addRange_13 (by decide) (fun c_14 => ?_) (fun c_14 => ?_)
  · exact k_54 r_3_0 r_3_1 _ _ _ (w_3.1 c_14) hP_3 hD_3 hS_3 (lv_sub hl [0, 1, 2, 3] rfl)
  · refine lv_iload_n hx hb dX0_addRange_16 rfl (lv_at hl 1 rfl) ?_
    refine lv_bipush (v := 90) hx hb dX0_addRange_17 (by decide) ?_
    refine lv_icmp_gt (tgt := 54) hx hb dX0_addRange_19 (by decide) (fun c_15 => ?_) (fun c_15 => ?_)
    · exact k_54 r_3_0 r_3_1 _ _ _ ((w_3.2 c_14).1 c_15) hP_3 hD_3 hS_3 (lv_sub hl [0, 1, 2, 3] rfl)
    · refine lv_iload_n hx hb dX0_addRange_22 rfl (lv_at hl 2 rfl) ?_
      refine lv_bipush (v := 65) hx hb dX0_addRange_23 (by decide) ?_
      refine lv_icmp_lt (tgt := 54) hx hb dX0_addRange_25 (by decide) (fun c_16 => ?_) (fun c_16 => ?_)
      · exact k_54 r_3_0 r_3_1 _ _ _ (((w_3.2 c_14).2 c_15).1 c_16) hP_3 hD_3 hS_3 (lv_sub hl [0, 1, 2, 3] rfl)
      · refine lv_aload_n hx hb dX0_addRange_28 rfl (lv_at hl 0 rfl) ?_
        refine lv_iload_n hx hb dX0_addRange_29 rfl (lv_at hl 1 rfl) ?_
        refine lv_bipush (v := 65) hx hb dX0_addRange_30 (by decide) ?_
        refine va_mmax hx hb (by rw [hml]; exact hl.1.symm) hown (ht _ tw_1346) (ht _ tw_274) (ht _ tw_238) (ht _ tw_275) (Nat.le_of_ble_eq_true rfl) (Nat.le_of_ble_eq_true rfl) (Nat.le_of_ble_eq_true rfl) (Nat.le_of_ble_eq_true rfl) dX0_addRange_32 ?_
        refine lv_topi (fun x_17 ex_17 => ?_)
        have ex_17 : x_17 = (if p1 < (65 : Int32) then (65 : Int32) else p1) := ex_17
        refine lv_bipush (v := 32) hx hb dX0_addRange_35 (by decide) ?_
        refine lv_iadd hx hb dX0_addRange_37 ?_
        refine lv_topi (fun x_18 ex_18 => ?_)
        have ex_18 : x_18 = x_17 + (32 : Int32) := ex_18
        have hPc_19 := hP_3.sub (ws' := [(h0, .inr (3, oX0 r_3_0 (.ref h1))), (h1, .inl (k0, 256, .inl r_3_1))]) [0, 1] rfl
        have hDc_19 := hD_3.sub (ws' := [(h0, .inr (3, oX0 r_3_0 (.ref h1))), (h1, .inl (k0, 256, .inl r_3_1))]) [0, 1] (by decide) rfl
        have hKc_19 := hK.sub (tys' := [(k0, .int)]) [0] rfl
        have hFc_19 := va_free (wc := [(h0, .inr (3, oX0 r_3_0 (.ref h1))), (h1, .inl (k0, 256, .inl r_3_1))]) hD_3 hS_3 hA [0, 1] rfl
        have w_20 := ((((w_3.2 c_14).2 c_15).2 c_16) x_17 ex_17) x_18 ex_18
        refine va_callv (va_runV (As := [.int x_18]) (rest := []) ⟨hx, hb, hml, hown, ht⟩ (mt_X0_addBegin l dC dI h0 h1 k0 x_18 r_3_0 r_3_1 _ w_20 H_3.size) (cwV 1 ht (goodV tw_1341 tw_1343 tw_59 tw_247 gw_X0_addBegin) rfl rfl rfl (by decide +kernel) ⟨Nat.le_of_ble_eq_true rfl, Nat.le_of_ble_eq_true rfl⟩) ⟨fun a U g mk q => by obtain ⟨q0, q1, qP, qK, qD⟩ := q; exact ⟨q0, q1, qP, va_K.moved (u := U) (U := U.calling g mk a) (Vm.Alike.refl U.vm) qK, qD⟩, va_recv hKc_19 hPc_19 (ci := 3) (q0 := 0) rfl rfl, fun U hU hW => ⟨rfl, by rw [hU], by rw [hU]; exact hPc_19, va_K.moved hW.alike hKc_19, hDc_19.weaken (fun _ _ _ _ => trivial)⟩⟩ rfl rfl hl.1 rfl (lv_room (Nat.le_of_ble_eq_true rfl)) dX0_addRange_38 ⟨Nat.le_of_ble_eq_true rfl, Nat.le_of_ble_eq_true rfl⟩) hS_3 (fun q _ h => hFc_19 q h) hFc_19 (fun u_19 t_19 H_19 locs_19 ht_19 hvm_19 hw_19 hB_19 hz_19 hk_19 hS_19 => ?_)
        subst hw_19
        obtain ⟨r_19_0, r_19_1, w_19, hP1_19, hD1_19⟩ := hB_19
        rw [ht_19] at hP1_19
        obtain ⟨hP_19, hD_19⟩ := va_join (wr := []) (w1 := [(h0, .inr (3, oX0 r_19_0 (.ref h1))), (h1, .inl (k0, 256, .inl r_19_1))]) hP_3 hD_3 [0, 1] [] rfl rfl (by decide) (by decide) hk_19 hFc_19 hP1_19 hD1_19
        have hP_19 := hP_19.sub (ws' := [(h0, .inr (3, oX0 r_19_0 (.ref h1))), (h1, .inl (k0, 256, .inl r_19_1))]) [0, 1] rfl
        have hD_19 := hD_19.sub (ws' := [(h0, .inr (3, oX0 r_19_0 (.ref h1))), (h1, .inl (k0, 256, .inl r_19_1))]) [0, 1] (by decide) rfl
        clear hPc_19 hDc_19 hKc_19 hFc_19 hP1_19 hD1_19 hk_19 hz_19
        refine lv_aload_n hx hb dX0_addRange_41 rfl (lv_at hl 0 rfl) ?_
        refine lv_iload_n hx hb dX0_addRange_42 rfl (lv_at hl 2 rfl) ?_
        refine lv_bipush (v := 90) hx hb dX0_addRange_43 (by decide) ?_
        refine va_mmin hx hb (by rw [hml]; exact hl.1.symm) hown (ht _ tw_1347) (ht _ tw_1114) (ht _ tw_238) (ht _ tw_1115) (Nat.le_of_ble_eq_true rfl) (Nat.le_of_ble_eq_true rfl) (Nat.le_of_ble_eq_true rfl) (Nat.le_of_ble_eq_true rfl) dX0_addRange_45 ?_
        refine lv_topi (fun x_21 ex_21 => ?_)
        have ex_21 : x_21 = (if (90 : Int32) < p2 then (90 : Int32) else p2) := ex_21
        refine lv_bipush (v := 33) hx hb dX0_addRange_48 (by decide) ?_
        refine lv_iadd hx hb dX0_addRange_50 ?_
        refine lv_topi (fun x_22 ex_22 => ?_)
        have ex_22 : x_22 = x_21 + (33 : Int32) := ex_22
        have hPc_23 := hP_19.sub (ws' := [(h0, .inr (3, oX0 r_19_0 (.ref h1))), (h1, .inl (k0, 256, .inl r_19_1))]) [0, 1] rfl
        have hDc_23 := hD_19.sub (ws' := [(h0, .inr (3, oX0 r_19_0 (.ref h1))), (h1, .inl (k0, 256, .inl r_19_1))]) [0, 1] (by decide) rfl
        have hKc_23 := hK.sub (tys' := [(k0, .int)]) [0] rfl
        have hFc_23 := va_free (wc := [(h0, .inr (3, oX0 r_19_0 (.ref h1))), (h1, .inl (k0, 256, .inl r_19_1))]) hD_19 hS_19 hA [0, 1] rfl
        refine va_callv (va_runV (As := [.int x_22]) (rest := []) ⟨hx, hb, hml, hown, ht⟩ (mt_X0_addBegin l dC dI h0 h1 k0 x_22 r_19_0 r_19_1 _ (w_19 x_21 ex_21 x_22 ex_22) H_19.size) (cwV 1 ht (goodV tw_1341 tw_1343 tw_59 tw_247 gw_X0_addBegin) rfl rfl rfl (by decide +kernel) ⟨Nat.le_of_ble_eq_true rfl, Nat.le_of_ble_eq_true rfl⟩) ⟨fun a U g mk q => by obtain ⟨q0, q1, qP, qK, qD⟩ := q; exact ⟨q0, q1, qP, va_K.moved (u := U) (U := U.calling g mk a) (Vm.Alike.refl U.vm) qK, qD⟩, va_recv hKc_23 hPc_23 (ci := 3) (q0 := 0) rfl rfl, fun U hU hW => ⟨rfl, by rw [hU], by rw [hU]; exact hPc_23, va_K.moved hW.alike hKc_23, hDc_23.weaken (fun _ _ _ _ => trivial)⟩⟩ rfl rfl hl.1 rfl (lv_room (Nat.le_of_ble_eq_true rfl)) dX0_addRange_51 ⟨Nat.le_of_ble_eq_true rfl, Nat.le_of_ble_eq_true rfl⟩) hS_19 (fun q _ h => hFc_23 q h) hFc_23 (fun u_23 t_23 H_23 locs_23 ht_23 hvm_23 hw_23 hB_23 hz_23 hk_23 hS_23 => ?_)
        subst hw_23
        obtain ⟨r_23_0, r_23_1, w_23, hP1_23, hD1_23⟩ := hB_23
        rw [ht_23] at hP1_23
        obtain ⟨hP_23, hD_23⟩ := va_join (wr := []) (w1 := [(h0, .inr (3, oX0 r_23_0 (.ref h1))), (h1, .inl (k0, 256, .inl r_23_1))]) hP_19 hD_19 [0, 1] [] rfl rfl (by decide) (by decide) hk_23 hFc_23 hP1_23 hD1_23
        have hP_23 := hP_23.sub (ws' := [(h0, .inr (3, oX0 r_23_0 (.ref h1))), (h1, .inl (k0, 256, .inl r_23_1))]) [0, 1] rfl
        have hD_23 := hD_23.sub (ws' := [(h0, .inr (3, oX0 r_23_0 (.ref h1))), (h1, .inl (k0, 256, .inl r_23_1))]) [0, 1] (by decide) rfl
        clear hPc_23 hDc_23 hKc_23 hFc_23 hP1_23 hD1_23 hk_23 hz_23
        exact k_54 r_23_0 r_23_1 _ _ _ w_23 hP_23 hD_23 hS_23 (lv_sub hl [0, 1, 2, 3] rfl)
def w_X0_addParts_2B (p2 : Int32) (a1_count : Int32) (a1_ranges : Int32) (a1_sort : Nat → Int32) (a1_parts : Nat → Int32) (a1_low : Nat → Int32) (a1_high : Nat → Int32) (a1_withinCase : Nat → Bool) (a1_rangeBegin : Nat → Int32) (a1_rangeEnd : Nat → Int32) (Q : Int32 → (Nat → Int32) → Prop) (K2 : Int32 → Int32 → (Nat → Int32) → Prop) (l3_2 : Int32) (v_count_2 : Int32) (v_begins_2 : Nat → Int32) : Prop :=
  w_X10_partsOf p2 a1_count a1_sort a1_parts a1_high (fun r_2 => ((r_2 ≤ l3_2) → Q  v_count_2 v_begins_2) ∧ ((¬ r_2 ≤ l3_2) → w_X10_partBegin p2 l3_2 a1_count a1_ranges a1_low a1_rangeBegin (fun r_4 => w_X10_partEnd p2 l3_2 a1_count a1_ranges a1_low a1_rangeEnd (fun r_5 => w_X10_isWithinCase p2 a1_count a1_withinCase (fun r_6 => w_X0_addRange r_4 r_5 r_6 v_count_2 v_begins_2 (fun r_7_0 r_7_1 => ∀ x_8 : Int32, x_8 = l3_2 + 1 → K2 x_8 r_7_0 r_7_1))))))
def w_X0_addParts_2 (p2 : Int32) (a1_count : Int32) (a1_ranges : Int32) (a1_sort : Nat → Int32) (a1_parts : Nat → Int32) (a1_low : Nat → Int32) (a1_high : Nat → Int32) (a1_withinCase : Nat → Bool) (a1_rangeBegin : Nat → Int32) (a1_rangeEnd : Nat → Int32) (Q : Int32 → (Nat → Int32) → Prop) : Nat → Int32 → Int32 → (Nat → Int32) → Prop
  | 0, _, _, _ => False
  | n9 + 1, l3_2, v_count_2, v_begins_2 => w_X0_addParts_2B p2 a1_count a1_ranges a1_sort a1_parts a1_low a1_high a1_withinCase a1_rangeBegin a1_rangeEnd Q (w_X0_addParts_2 p2 a1_count a1_ranges a1_sort a1_parts a1_low a1_high a1_withinCase a1_rangeBegin a1_rangeEnd Q n9) l3_2 v_count_2 v_begins_2
def w_X0_addParts (p2 : Int32) (v_count : Int32) (v_begins : Nat → Int32) (a1_count : Int32) (a1_ranges : Int32) (a1_sort : Nat → Int32) (a1_parts : Nat → Int32) (a1_low : Nat → Int32) (a1_high : Nat → Int32) (a1_withinCase : Nat → Bool) (a1_rangeBegin : Nat → Int32) (a1_rangeEnd : Nat → Int32) (Q : Int32 → (Nat → Int32) → Prop) : Prop :=
  ∃ k9 : Nat, w_X0_addParts_2 p2 a1_count a1_ranges a1_sort a1_parts a1_low a1_high a1_withinCase a1_rangeBegin a1_rangeEnd Q k9 0 v_count v_begins
set_option maxHeartbeats 4000000 in
set_option maxRecDepth 100000 in
theorem mt_X0_addParts (l : Launch) (dC : Nat → ClassId) (dI : Nat → Nat → Nat) (h0 h1 h2 h3 h4 h5 h6 h7 h8 h9 h10 h11 h12 h13 h14 h15 h16 h17 h18 : Nat) (k0 k1 k2 k3 k4 k5 k6 k7 : ClassId) (p2 : Int32) (v_count : Int32) (v_begins : Nat → Int32) (a1_there : Bool) (a1_count : Int32) (a1_captures : Int32) (a1_ranges : Int32) (a1_sort : Nat → Int32) (a1_parts : Nat → Int32) (a1_low : Nat → Int32) (a1_high : Nat → Int32) (a1_withinCase : Nat → Bool) (a1_rangeBegin : Nat → Int32) (a1_rangeEnd : Nat → Int32) (Q : Int32 → (Nat → Int32) → Prop) (w : w_X0_addParts p2 v_count v_begins a1_count a1_ranges a1_sort a1_parts a1_low a1_high a1_withinCase a1_rangeBegin a1_rangeEnd Q) (sz : Nat) : Met l yX0_addParts (WS yX0_addParts cX0_addParts 4 none) ({ frames := 2, cells := 0, slots := 0, locals := 47 } : Room) (va_Pc [.ref h0, .ref h1, .int p2] (fun U => U.heap.size = sz ∧ va_P (dC, dI) vwCl [(h0, .inr (3, oX0 v_count (.ref h2))), (h2, .inl (k0, 256, .inl v_begins)), (h1, .inr (13, oX10 a1_there a1_count a1_captures a1_ranges (.ref h3) (.ref h10) (.ref h11) (.ref h12) (.ref h13) (.ref h4) (.ref h14) (.ref h5) (.ref h6) (.ref h15) (.ref h16) (.ref h17) (.ref h7) (.ref h18) (.ref h8) (.ref h9))), (h3, .inl (k1, 256, .inl a1_sort)), (h4, .inl (k2, 256, .inl a1_parts)), (h5, .inl (k3, 256, .inl a1_low)), (h6, .inl (k4, 256, .inl a1_high)), (h7, .inl (k5, 256, .inl (fun q9 => bz (a1_withinCase q9)))), (h8, .inl (k6, 512, .inl a1_rangeBegin)), (h9, .inl (k7, 512, .inl a1_rangeEnd))] U.heap ∧ va_K (dC, dI) vwCl [(k0, .int), (k1, .int), (k2, .int), (k3, .int), (k4, .int), (k5, .boolean), (k6, .int), (k7, .int)] U ∧ va_D (fun _ => True) [(h0, .inr (3, oX0 v_count (.ref h2))), (h2, .inl (k0, 256, .inl v_begins)), (h1, .inr (13, oX10 a1_there a1_count a1_captures a1_ranges (.ref h3) (.ref h10) (.ref h11) (.ref h12) (.ref h13) (.ref h4) (.ref h14) (.ref h5) (.ref h6) (.ref h15) (.ref h16) (.ref h17) (.ref h7) (.ref h18) (.ref h8) (.ref h9))), (h3, .inl (k1, 256, .inl a1_sort)), (h4, .inl (k2, 256, .inl a1_parts)), (h5, .inl (k3, 256, .inl a1_low)), (h6, .inl (k4, 256, .inl a1_high)), (h7, .inl (k5, 256, .inl (fun q9 => bz (a1_withinCase q9)))), (h8, .inl (k6, 512, .inl a1_rangeBegin)), (h9, .inl (k7, 512, .inl a1_rangeEnd))])) (va_Qv (fun (u : Nat) => u = 0) (fun (_ : Nat) (t : State) => ∃ (ov_count : Int32), ∃ (ov_begins : Nat → Int32), (Q ov_count ov_begins) ∧ va_P (dC, dI) vwCl [(h0, .inr (3, oX0 ov_count (.ref h2))), (h2, .inl (k0, 256, .inl ov_begins)), (h1, .inr (13, oX10 a1_there a1_count a1_captures a1_ranges (.ref h3) (.ref h10) (.ref h11) (.ref h12) (.ref h13) (.ref h4) (.ref h14) (.ref h5) (.ref h6) (.ref h15) (.ref h16) (.ref h17) (.ref h7) (.ref h18) (.ref h8) (.ref h9))), (h3, .inl (k1, 256, .inl a1_sort)), (h4, .inl (k2, 256, .inl a1_parts)), (h5, .inl (k3, 256, .inl a1_low)), (h6, .inl (k4, 256, .inl a1_high)), (h7, .inl (k5, 256, .inl (fun q9 => bz (a1_withinCase q9)))), (h8, .inl (k6, 512, .inl a1_rangeBegin)), (h9, .inl (k7, 512, .inl a1_rangeEnd))] t.heap ∧ va_D (va_A [(h0, .inr (3, oX0 v_count (.ref h2))), (h2, .inl (k0, 256, .inl v_begins)), (h1, .inr (13, oX10 a1_there a1_count a1_captures a1_ranges (.ref h3) (.ref h10) (.ref h11) (.ref h12) (.ref h13) (.ref h4) (.ref h14) (.ref h5) (.ref h6) (.ref h15) (.ref h16) (.ref h17) (.ref h7) (.ref h18) (.ref h8) (.ref h9))), (h3, .inl (k1, 256, .inl a1_sort)), (h4, .inl (k2, 256, .inl a1_parts)), (h5, .inl (k3, 256, .inl a1_low)), (h6, .inl (k4, 256, .inl a1_high)), (h7, .inl (k5, 256, .inl (fun q9 => bz (a1_withinCase q9)))), (h8, .inl (k6, 512, .inl a1_rangeBegin)), (h9, .inl (k7, 512, .inl a1_rangeEnd))] sz) [(h0, .inr (3, oX0 ov_count (.ref h2))), (h2, .inl (k0, 256, .inl ov_begins)), (h1, .inr (13, oX10 a1_there a1_count a1_captures a1_ranges (.ref h3) (.ref h10) (.ref h11) (.ref h12) (.ref h13) (.ref h4) (.ref h14) (.ref h5) (.ref h6) (.ref h15) (.ref h16) (.ref h17) (.ref h7) (.ref h18) (.ref h8) (.ref h9))), (h3, .inl (k1, 256, .inl a1_sort)), (h4, .inl (k2, 256, .inl a1_parts)), (h5, .inl (k3, 256, .inl a1_low)), (h6, .inl (k4, 256, .inl a1_high)), (h7, .inl (k5, 256, .inl (fun q9 => bz (a1_withinCase q9)))), (h8, .inl (k6, 512, .inl a1_rangeBegin)), (h9, .inl (k7, 512, .inl a1_rangeEnd))]) (va_A [(h0, .inr (3, oX0 v_count (.ref h2))), (h2, .inl (k0, 256, .inl v_begins)), (h1, .inr (13, oX10 a1_there a1_count a1_captures a1_ranges (.ref h3) (.ref h10) (.ref h11) (.ref h12) (.ref h13) (.ref h4) (.ref h14) (.ref h5) (.ref h6) (.ref h15) (.ref h16) (.ref h17) (.ref h7) (.ref h18) (.ref h8) (.ref h9))), (h3, .inl (k1, 256, .inl a1_sort)), (h4, .inl (k2, 256, .inl a1_parts)), (h5, .inl (k3, 256, .inl a1_low)), (h6, .inl (k4, 256, .inl a1_high)), (h7, .inl (k5, 256, .inl (fun q9 => bz (a1_withinCase q9)))), (h8, .inl (k6, 512, .inl a1_rangeBegin)), (h9, .inl (k7, 512, .inl a1_rangeEnd))] sz)) 0 0 (va_A [(h0, .inr (3, oX0 v_count (.ref h2))), (h2, .inl (k0, 256, .inl v_begins)), (h1, .inr (13, oX10 a1_there a1_count a1_captures a1_ranges (.ref h3) (.ref h10) (.ref h11) (.ref h12) (.ref h13) (.ref h4) (.ref h14) (.ref h5) (.ref h6) (.ref h15) (.ref h16) (.ref h17) (.ref h7) (.ref h18) (.ref h8) (.ref h9))), (h3, .inl (k1, 256, .inl a1_sort)), (h4, .inl (k2, 256, .inl a1_parts)), (h5, .inl (k3, 256, .inl a1_low)), (h6, .inl (k4, 256, .inl a1_high)), (h7, .inl (k5, 256, .inl (fun q9 => bz (a1_withinCase q9)))), (h8, .inl (k6, 512, .inl a1_rangeBegin)), (h9, .inl (k7, 512, .inl a1_rangeEnd))] sz) := by
  refine Met.ofW (cc := cX0_addParts) (maxL := 4) (ret := none) (by decide) rfl ?_
  intro p e s m args below meth c s₁ B hml hv
  obtain ⟨rfl, hsz, hP, hK, hD0⟩ := hv
  have hx := B.exec
  have hb := B.bytes
  have hr := B.returns
  have hts := atoms_spec (ws := WS yX0_addParts cX0_addParts 4 none) B.pre
  have ht : ∀ w ∈ TW, w.before _ s = true := fun w h => hts w (List.mem_cons_of_mem _ h)
  have hown : s.vm.findClass "PatternWorkshop$Alphabet" = some m.cls := findClass_of_methodNamed B.named
  have hlocks := B.notSynchronized
  subst hsz
  have hD := hD0.self (sz := s.heap.size)
  generalize hAe : va_A [(h0, .inr (3, oX0 v_count (.ref h2))), (h2, .inl (k0, 256, .inl v_begins)), (h1, .inr (13, oX10 a1_there a1_count a1_captures a1_ranges (.ref h3) (.ref h10) (.ref h11) (.ref h12) (.ref h13) (.ref h4) (.ref h14) (.ref h5) (.ref h6) (.ref h15) (.ref h16) (.ref h17) (.ref h7) (.ref h18) (.ref h8) (.ref h9))), (h3, .inl (k1, 256, .inl a1_sort)), (h4, .inl (k2, 256, .inl a1_parts)), (h5, .inl (k3, 256, .inl a1_low)), (h6, .inl (k4, 256, .inl a1_high)), (h7, .inl (k5, 256, .inl (fun q9 => bz (a1_withinCase q9)))), (h8, .inl (k6, 512, .inl a1_rangeBegin)), (h9, .inl (k7, 512, .inl a1_rangeEnd))] s.heap.size = A at hD ⊢
  have hA : ∀ q : Nat, s.heap.size ≤ q → A q := fun q h => by rw [← hAe]; exact Or.inr h
  have hS : va_S A s.heap s.heap [] := va_S.rf
  have hP : va_P (dC, dI) vwCl [(h0, .inr (3, oX0 v_count (.ref h2))), (h2, .inl (k0, 256, .inl v_begins)), (h1, .inr (13, oX10 a1_there a1_count a1_captures a1_ranges (.ref h3) (.ref h10) (.ref h11) (.ref h12) (.ref h13) (.ref h4) (.ref h14) (.ref h5) (.ref h6) (.ref h15) (.ref h16) (.ref h17) (.ref h7) (.ref h18) (.ref h8) (.ref h9))), (h3, .inl (k1, 256, .inl a1_sort)), (h4, .inl (k2, 256, .inl a1_parts)), (h5, .inl (k3, 256, .inl a1_low)), (h6, .inl (k4, 256, .inl a1_high)), (h7, .inl (k5, 256, .inl (fun q9 => bz (a1_withinCase q9)))), (h8, .inl (k6, 512, .inl a1_rangeBegin)), (h9, .inl (k7, 512, .inl a1_rangeEnd))] s.heap := hP
  have hl := lv_entry ([.ref h0, .ref h1, .int p2]) (n := 4) (Nat.le_of_ble_eq_true rfl)
  rw [lg_entry_eq]
  generalize (lg_sl ([.ref h0, .ref h1, .int p2]) ++ List.replicate (4 - (lg_sl ([.ref h0, .ref h1, .int p2])).length) Slot.unset).toArray = ls at hl ⊢
  have hl : lv_has ls 4 [(0, .ref h0), (1, .ref h1), (2, .int p2)] := hl
  clear hD0
  obtain ⟨QQ, hQQ⟩ : ∃ QQ, QQ = MQ below (va_Qv (fun (u : Nat) => u = 0) (fun (_ : Nat) (t : State) => ∃ (ov_count : Int32), ∃ (ov_begins : Nat → Int32), (Q ov_count ov_begins) ∧ va_P (dC, dI) vwCl [(h0, .inr (3, oX0 ov_count (.ref h2))), (h2, .inl (k0, 256, .inl ov_begins)), (h1, .inr (13, oX10 a1_there a1_count a1_captures a1_ranges (.ref h3) (.ref h10) (.ref h11) (.ref h12) (.ref h13) (.ref h4) (.ref h14) (.ref h5) (.ref h6) (.ref h15) (.ref h16) (.ref h17) (.ref h7) (.ref h18) (.ref h8) (.ref h9))), (h3, .inl (k1, 256, .inl a1_sort)), (h4, .inl (k2, 256, .inl a1_parts)), (h5, .inl (k3, 256, .inl a1_low)), (h6, .inl (k4, 256, .inl a1_high)), (h7, .inl (k5, 256, .inl (fun q9 => bz (a1_withinCase q9)))), (h8, .inl (k6, 512, .inl a1_rangeBegin)), (h9, .inl (k7, 512, .inl a1_rangeEnd))] t.heap ∧ va_D A [(h0, .inr (3, oX0 ov_count (.ref h2))), (h2, .inl (k0, 256, .inl ov_begins)), (h1, .inr (13, oX10 a1_there a1_count a1_captures a1_ranges (.ref h3) (.ref h10) (.ref h11) (.ref h12) (.ref h13) (.ref h4) (.ref h14) (.ref h5) (.ref h6) (.ref h15) (.ref h16) (.ref h17) (.ref h7) (.ref h18) (.ref h8) (.ref h9))), (h3, .inl (k1, 256, .inl a1_sort)), (h4, .inl (k2, 256, .inl a1_parts)), (h5, .inl (k3, 256, .inl a1_low)), (h6, .inl (k4, 256, .inl a1_high)), (h7, .inl (k5, 256, .inl (fun q9 => bz (a1_withinCase q9)))), (h8, .inl (k6, 512, .inl a1_rangeBegin)), (h9, .inl (k7, 512, .inl a1_rangeEnd))]) A) ([.ref h0, .ref h1, .int p2]).toArray s 0 0 A := ⟨_, rfl⟩
  show W p l e ({ frames := 2, cells := 0, slots := 0, locals := 47 } : Room) s m ([.ref h0, .ref h1, .int p2]).toArray below meth c s.heap [] 0 0 (MQ below (va_Qv (fun (u : Nat) => u = 0) (fun (_ : Nat) (t : State) => ∃ (ov_count : Int32), ∃ (ov_begins : Nat → Int32), (Q ov_count ov_begins) ∧ va_P (dC, dI) vwCl [(h0, .inr (3, oX0 ov_count (.ref h2))), (h2, .inl (k0, 256, .inl ov_begins)), (h1, .inr (13, oX10 a1_there a1_count a1_captures a1_ranges (.ref h3) (.ref h10) (.ref h11) (.ref h12) (.ref h13) (.ref h4) (.ref h14) (.ref h5) (.ref h6) (.ref h15) (.ref h16) (.ref h17) (.ref h7) (.ref h18) (.ref h8) (.ref h9))), (h3, .inl (k1, 256, .inl a1_sort)), (h4, .inl (k2, 256, .inl a1_parts)), (h5, .inl (k3, 256, .inl a1_low)), (h6, .inl (k4, 256, .inl a1_high)), (h7, .inl (k5, 256, .inl (fun q9 => bz (a1_withinCase q9)))), (h8, .inl (k6, 512, .inl a1_rangeBegin)), (h9, .inl (k7, 512, .inl a1_rangeEnd))] t.heap ∧ va_D A [(h0, .inr (3, oX0 ov_count (.ref h2))), (h2, .inl (k0, 256, .inl ov_begins)), (h1, .inr (13, oX10 a1_there a1_count a1_captures a1_ranges (.ref h3) (.ref h10) (.ref h11) (.ref h12) (.ref h13) (.ref h4) (.ref h14) (.ref h5) (.ref h6) (.ref h15) (.ref h16) (.ref h17) (.ref h7) (.ref h18) (.ref h8) (.ref h9))), (h3, .inl (k1, 256, .inl a1_sort)), (h4, .inl (k2, 256, .inl a1_parts)), (h5, .inl (k3, 256, .inl a1_low)), (h6, .inl (k4, 256, .inl a1_high)), (h7, .inl (k5, 256, .inl (fun q9 => bz (a1_withinCase q9)))), (h8, .inl (k6, 512, .inl a1_rangeBegin)), (h9, .inl (k7, 512, .inl a1_rangeEnd))]) A) ([.ref h0, .ref h1, .int p2]).toArray s 0 0 A) (F0 m 0 ls [])
  rw [← hQQ]
  unfold w_X0_addParts at w
  refine lv_iconst (v := 0) hx hb dX0_addParts_0 (by decide) ?_
  refine lv_istore_n (lv' := [(3, .int 0), (0, .ref h0), (1, .ref h1), (2, .int p2)]) hx hb dX0_addParts_1 rfl hl (by decide) rfl (fun ls_1 hl_1 => ?_)
  clear hl
  have k_2 : ∀ n_2 : Nat, ∀ (l3_2 : Int32) (v_count_2 : Int32) (v_begins_2 : Nat → Int32), ∀ (H_b2 : Heap) (locs_b2 : List Loc) (ls_b2 : Array Slot), w_X0_addParts_2 p2 a1_count a1_ranges a1_sort a1_parts a1_low a1_high a1_withinCase a1_rangeBegin a1_rangeEnd Q n_2 l3_2 v_count_2 v_begins_2 → va_P (dC, dI) vwCl [(h0, .inr (3, oX0 v_count_2 (.ref h2))), (h2, .inl (k0, 256, .inl v_begins_2)), (h1, .inr (13, oX10 a1_there a1_count a1_captures a1_ranges (.ref h3) (.ref h10) (.ref h11) (.ref h12) (.ref h13) (.ref h4) (.ref h14) (.ref h5) (.ref h6) (.ref h15) (.ref h16) (.ref h17) (.ref h7) (.ref h18) (.ref h8) (.ref h9))), (h3, .inl (k1, 256, .inl a1_sort)), (h4, .inl (k2, 256, .inl a1_parts)), (h5, .inl (k3, 256, .inl a1_low)), (h6, .inl (k4, 256, .inl a1_high)), (h7, .inl (k5, 256, .inl (fun q9 => bz (a1_withinCase q9)))), (h8, .inl (k6, 512, .inl a1_rangeBegin)), (h9, .inl (k7, 512, .inl a1_rangeEnd))] H_b2 → va_D A [(h0, .inr (3, oX0 v_count_2 (.ref h2))), (h2, .inl (k0, 256, .inl v_begins_2)), (h1, .inr (13, oX10 a1_there a1_count a1_captures a1_ranges (.ref h3) (.ref h10) (.ref h11) (.ref h12) (.ref h13) (.ref h4) (.ref h14) (.ref h5) (.ref h6) (.ref h15) (.ref h16) (.ref h17) (.ref h7) (.ref h18) (.ref h8) (.ref h9))), (h3, .inl (k1, 256, .inl a1_sort)), (h4, .inl (k2, 256, .inl a1_parts)), (h5, .inl (k3, 256, .inl a1_low)), (h6, .inl (k4, 256, .inl a1_high)), (h7, .inl (k5, 256, .inl (fun q9 => bz (a1_withinCase q9)))), (h8, .inl (k6, 512, .inl a1_rangeBegin)), (h9, .inl (k7, 512, .inl a1_rangeEnd))] → va_S A s.heap H_b2 locs_b2 → lv_has ls_b2 4 [(0, .ref h0), (1, .ref h1), (2, .int p2), (3, .int l3_2)] → W p l e ({ frames := 2, cells := 0, slots := 0, locals := 47 } : Room) s m ([.ref h0, .ref h1, .int p2]).toArray below meth c H_b2 locs_b2 0 0 QQ (F0 m 2 ls_b2 []) := by
    intro n_2
    induction n_2 with
    | zero =>
      intro l3_2 v_count_2 v_begins_2 H_b2 locs_b2 ls_b2 w_b2 hP_b2 hD_b2 hS_b2 hl_b2
      exact False.elim (by unfold w_X0_addParts_2 at w_b2; exact w_b2)
    | succ n_2 ih_2 =>
      intro l3_2 v_count_2 v_begins_2 H_b2 locs_b2 ls_b2 w_b2 hP_b2 hD_b2 hS_b2 hl_b2
      unfold w_X0_addParts_2 at w_b2
      unfold w_X0_addParts_2B at w_b2
      refine lv_iload_n hx hb dX0_addParts_2 rfl (lv_at hl_b2 3 rfl) ?_
      refine lv_aload_n hx hb dX0_addParts_3 rfl (lv_at hl_b2 1 rfl) ?_
      refine lv_iload_n hx hb dX0_addParts_4 rfl (lv_at hl_b2 2 rfl) ?_
      have hPc_2 := hP_b2.sub (ws' := [(h1, .inr (13, oX10 a1_there a1_count a1_captures a1_ranges (.ref h3) (.ref h10) (.ref h11) (.ref h12) (.ref h13) (.ref h4) (.ref h14) (.ref h5) (.ref h6) (.ref h15) (.ref h16) (.ref h17) (.ref h7) (.ref h18) (.ref h8) (.ref h9))), (h3, .inl (k1, 256, .inl a1_sort)), (h4, .inl (k2, 256, .inl a1_parts)), (h6, .inl (k4, 256, .inl a1_high))]) [2, 3, 4, 6] rfl
      have hDc_2 := hD_b2.sub (ws' := [(h1, .inr (13, oX10 a1_there a1_count a1_captures a1_ranges (.ref h3) (.ref h10) (.ref h11) (.ref h12) (.ref h13) (.ref h4) (.ref h14) (.ref h5) (.ref h6) (.ref h15) (.ref h16) (.ref h17) (.ref h7) (.ref h18) (.ref h8) (.ref h9))), (h3, .inl (k1, 256, .inl a1_sort)), (h4, .inl (k2, 256, .inl a1_parts)), (h6, .inl (k4, 256, .inl a1_high))]) [2, 3, 4, 6] (by decide) rfl
      have hKc_2 := hK.sub (tys' := [(k1, .int), (k2, .int), (k4, .int)]) [1, 2, 4] rfl
      have hFc_2 := va_free (wc := [(h1, .inr (13, oX10 a1_there a1_count a1_captures a1_ranges (.ref h3) (.ref h10) (.ref h11) (.ref h12) (.ref h13) (.ref h4) (.ref h14) (.ref h5) (.ref h6) (.ref h15) (.ref h16) (.ref h17) (.ref h7) (.ref h18) (.ref h8) (.ref h9))), (h3, .inl (k1, 256, .inl a1_sort)), (h4, .inl (k2, 256, .inl a1_parts)), (h6, .inl (k4, 256, .inl a1_high))]) hD_b2 hS_b2 hA [2, 3, 4, 6] rfl
      refine va_calli (va_runV (As := [.int p2]) (rest := [.int l3_2]) ⟨hx, hb, hml, hown, ht⟩ (mt_X10_partsOf l dC dI h1 h3 h4 h6 h10 h11 h12 h13 h14 h5 h15 h16 h17 h7 h18 h8 h9 k1 k2 k4 p2 a1_there a1_count a1_captures a1_ranges a1_sort a1_parts a1_high _ w_b2 H_b2.size) (cwV 1 ht (goodV tw_1352 tw_1162 tw_1163 tw_240 gw_X10_partsOf) rfl rfl rfl (by decide +kernel) ⟨Nat.le_of_ble_eq_true rfl, Nat.le_of_ble_eq_true rfl⟩) ⟨fun a U g mk q => by obtain ⟨q0, q1, qP, qK, qD⟩ := q; exact ⟨q0, q1, qP, va_K.moved (u := U) (U := U.calling g mk a) (Vm.Alike.refl U.vm) qK, qD⟩, va_recv hKc_2 hPc_2 (ci := 13) (q0 := 0) rfl rfl, fun U hU hW => ⟨rfl, by rw [hU], by rw [hU]; exact hPc_2, va_K.moved hW.alike hKc_2, hDc_2.weaken (fun _ _ _ _ => trivial)⟩⟩ rfl rfl hl_b2.1 rfl (lv_room (Nat.le_of_ble_eq_true rfl)) dX0_addParts_5 ⟨Nat.le_of_ble_eq_true rfl, Nat.le_of_ble_eq_true rfl⟩) hS_b2 (fun q _ h => hFc_2 q h) hFc_2 (fun r_2 u_2 t_2 H_2 locs_2 ht_2 hvm_2 hw_2 hB_2 hz_2 hk_2 hS_2 => ?_)
      subst hw_2
      obtain ⟨w_2, hP1_2, hD1_2⟩ := hB_2
      rw [ht_2] at hP1_2
      obtain ⟨hP_2, hD_2⟩ := va_join (wr := [(h0, .inr (3, oX0 v_count_2 (.ref h2))), (h2, .inl (k0, 256, .inl v_begins_2)), (h5, .inl (k3, 256, .inl a1_low)), (h7, .inl (k5, 256, .inl (fun q9 => bz (a1_withinCase q9)))), (h8, .inl (k6, 512, .inl a1_rangeBegin)), (h9, .inl (k7, 512, .inl a1_rangeEnd))]) (w1 := [(h1, .inr (13, oX10 a1_there a1_count a1_captures a1_ranges (.ref h3) (.ref h10) (.ref h11) (.ref h12) (.ref h13) (.ref h4) (.ref h14) (.ref h5) (.ref h6) (.ref h15) (.ref h16) (.ref h17) (.ref h7) (.ref h18) (.ref h8) (.ref h9))), (h3, .inl (k1, 256, .inl a1_sort)), (h4, .inl (k2, 256, .inl a1_parts)), (h6, .inl (k4, 256, .inl a1_high))]) hP_b2 hD_b2 [2, 3, 4, 6] [0, 1, 5, 7, 8, 9] rfl rfl (by decide) (by decide) hk_2 hFc_2 hP1_2 hD1_2
      have hP_2 := hP_2.sub (ws' := [(h0, .inr (3, oX0 v_count_2 (.ref h2))), (h2, .inl (k0, 256, .inl v_begins_2)), (h1, .inr (13, oX10 a1_there a1_count a1_captures a1_ranges (.ref h3) (.ref h10) (.ref h11) (.ref h12) (.ref h13) (.ref h4) (.ref h14) (.ref h5) (.ref h6) (.ref h15) (.ref h16) (.ref h17) (.ref h7) (.ref h18) (.ref h8) (.ref h9))), (h3, .inl (k1, 256, .inl a1_sort)), (h4, .inl (k2, 256, .inl a1_parts)), (h5, .inl (k3, 256, .inl a1_low)), (h6, .inl (k4, 256, .inl a1_high)), (h7, .inl (k5, 256, .inl (fun q9 => bz (a1_withinCase q9)))), (h8, .inl (k6, 512, .inl a1_rangeBegin)), (h9, .inl (k7, 512, .inl a1_rangeEnd))]) [0, 1, 6, 7, 8, 2, 9, 3, 4, 5] rfl
      have hD_2 := hD_2.sub (ws' := [(h0, .inr (3, oX0 v_count_2 (.ref h2))), (h2, .inl (k0, 256, .inl v_begins_2)), (h1, .inr (13, oX10 a1_there a1_count a1_captures a1_ranges (.ref h3) (.ref h10) (.ref h11) (.ref h12) (.ref h13) (.ref h4) (.ref h14) (.ref h5) (.ref h6) (.ref h15) (.ref h16) (.ref h17) (.ref h7) (.ref h18) (.ref h8) (.ref h9))), (h3, .inl (k1, 256, .inl a1_sort)), (h4, .inl (k2, 256, .inl a1_parts)), (h5, .inl (k3, 256, .inl a1_low)), (h6, .inl (k4, 256, .inl a1_high)), (h7, .inl (k5, 256, .inl (fun q9 => bz (a1_withinCase q9)))), (h8, .inl (k6, 512, .inl a1_rangeBegin)), (h9, .inl (k7, 512, .inl a1_rangeEnd))]) [0, 1, 6, 7, 8, 2, 9, 3, 4, 5] (by decide) rfl
      clear hPc_2 hDc_2 hKc_2 hFc_2 hP1_2 hD1_2 hk_2 hz_2
      refine lv_icmp_ge (tgt := 38) hx hb dX0_addParts_8 (by decide) (fun c_3 => ?_) (fun c_3 => ?_)
      · rw [hQQ]
        exact W.vret hx hb hr (fun t9 ht9 hW9 => ⟨⟨0, rfl, rfl, ⟨v_count_2, v_begins_2, w_2.1 c_3, by rw [ht9]; exact hP_2, hD_2⟩⟩, hS_2.F ht9⟩) hS_2.2.2 dX0_addParts_38
      · refine lv_aload_n hx hb dX0_addParts_11 rfl (lv_at hl_b2 0 rfl) ?_
        refine lv_aload_n hx hb dX0_addParts_12 rfl (lv_at hl_b2 1 rfl) ?_
        refine lv_iload_n hx hb dX0_addParts_13 rfl (lv_at hl_b2 2 rfl) ?_
        refine lv_iload_n hx hb dX0_addParts_14 rfl (lv_at hl_b2 3 rfl) ?_
        have hPc_4 := hP_2.sub (ws' := [(h1, .inr (13, oX10 a1_there a1_count a1_captures a1_ranges (.ref h3) (.ref h10) (.ref h11) (.ref h12) (.ref h13) (.ref h4) (.ref h14) (.ref h5) (.ref h6) (.ref h15) (.ref h16) (.ref h17) (.ref h7) (.ref h18) (.ref h8) (.ref h9))), (h5, .inl (k3, 256, .inl a1_low)), (h8, .inl (k6, 512, .inl a1_rangeBegin))]) [2, 5, 8] rfl
        have hDc_4 := hD_2.sub (ws' := [(h1, .inr (13, oX10 a1_there a1_count a1_captures a1_ranges (.ref h3) (.ref h10) (.ref h11) (.ref h12) (.ref h13) (.ref h4) (.ref h14) (.ref h5) (.ref h6) (.ref h15) (.ref h16) (.ref h17) (.ref h7) (.ref h18) (.ref h8) (.ref h9))), (h5, .inl (k3, 256, .inl a1_low)), (h8, .inl (k6, 512, .inl a1_rangeBegin))]) [2, 5, 8] (by decide) rfl
        have hKc_4 := hK.sub (tys' := [(k3, .int), (k6, .int)]) [3, 6] rfl
        have hFc_4 := va_free (wc := [(h1, .inr (13, oX10 a1_there a1_count a1_captures a1_ranges (.ref h3) (.ref h10) (.ref h11) (.ref h12) (.ref h13) (.ref h4) (.ref h14) (.ref h5) (.ref h6) (.ref h15) (.ref h16) (.ref h17) (.ref h7) (.ref h18) (.ref h8) (.ref h9))), (h5, .inl (k3, 256, .inl a1_low)), (h8, .inl (k6, 512, .inl a1_rangeBegin))]) hD_2 hS_2 hA [2, 5, 8] rfl
        refine va_calli (va_runV (As := [.int p2, .int l3_2]) (rest := [.ref h0]) ⟨hx, hb, hml, hown, ht⟩ (mt_X10_partBegin l dC dI h1 h5 h8 h3 h10 h11 h12 h13 h4 h14 h6 h15 h16 h17 h7 h18 h9 k3 k6 p2 l3_2 a1_there a1_count a1_captures a1_ranges a1_low a1_rangeBegin _ (w_2.2 c_3) H_2.size) (cwV 2 ht (goodV tw_1353 tw_1185 tw_1186 tw_240 gw_X10_partBegin) rfl rfl rfl (by decide +kernel) ⟨Nat.le_of_ble_eq_true rfl, Nat.le_of_ble_eq_true rfl⟩) ⟨fun a U g mk q => by obtain ⟨q0, q1, qP, qK, qD⟩ := q; exact ⟨q0, q1, qP, va_K.moved (u := U) (U := U.calling g mk a) (Vm.Alike.refl U.vm) qK, qD⟩, va_recv hKc_4 hPc_4 (ci := 13) (q0 := 0) rfl rfl, fun U hU hW => ⟨rfl, by rw [hU], by rw [hU]; exact hPc_4, va_K.moved hW.alike hKc_4, hDc_4.weaken (fun _ _ _ _ => trivial)⟩⟩ rfl rfl hl_b2.1 rfl (lv_room (Nat.le_of_ble_eq_true rfl)) dX0_addParts_15 ⟨Nat.le_of_ble_eq_true rfl, Nat.le_of_ble_eq_true rfl⟩) hS_2 (fun q _ h => hFc_4 q h) hFc_4 (fun r_4 u_4 t_4 H_4 locs_4 ht_4 hvm_4 hw_4 hB_4 hz_4 hk_4 hS_4 => ?_)
        subst hw_4
        obtain ⟨w_4, hP1_4, hD1_4⟩ := hB_4
        rw [ht_4] at hP1_4
        obtain ⟨hP_4, hD_4⟩ := va_join (wr := [(h0, .inr (3, oX0 v_count_2 (.ref h2))), (h2, .inl (k0, 256, .inl v_begins_2)), (h3, .inl (k1, 256, .inl a1_sort)), (h4, .inl (k2, 256, .inl a1_parts)), (h6, .inl (k4, 256, .inl a1_high)), (h7, .inl (k5, 256, .inl (fun q9 => bz (a1_withinCase q9)))), (h9, .inl (k7, 512, .inl a1_rangeEnd))]) (w1 := [(h1, .inr (13, oX10 a1_there a1_count a1_captures a1_ranges (.ref h3) (.ref h10) (.ref h11) (.ref h12) (.ref h13) (.ref h4) (.ref h14) (.ref h5) (.ref h6) (.ref h15) (.ref h16) (.ref h17) (.ref h7) (.ref h18) (.ref h8) (.ref h9))), (h5, .inl (k3, 256, .inl a1_low)), (h8, .inl (k6, 512, .inl a1_rangeBegin))]) hP_2 hD_2 [2, 5, 8] [0, 1, 3, 4, 6, 7, 9] rfl rfl (by decide) (by decide) hk_4 hFc_4 hP1_4 hD1_4
        have hP_4 := hP_4.sub (ws' := [(h0, .inr (3, oX0 v_count_2 (.ref h2))), (h2, .inl (k0, 256, .inl v_begins_2)), (h1, .inr (13, oX10 a1_there a1_count a1_captures a1_ranges (.ref h3) (.ref h10) (.ref h11) (.ref h12) (.ref h13) (.ref h4) (.ref h14) (.ref h5) (.ref h6) (.ref h15) (.ref h16) (.ref h17) (.ref h7) (.ref h18) (.ref h8) (.ref h9))), (h3, .inl (k1, 256, .inl a1_sort)), (h4, .inl (k2, 256, .inl a1_parts)), (h5, .inl (k3, 256, .inl a1_low)), (h6, .inl (k4, 256, .inl a1_high)), (h7, .inl (k5, 256, .inl (fun q9 => bz (a1_withinCase q9)))), (h8, .inl (k6, 512, .inl a1_rangeBegin)), (h9, .inl (k7, 512, .inl a1_rangeEnd))]) [0, 1, 7, 2, 3, 8, 4, 5, 9, 6] rfl
        have hD_4 := hD_4.sub (ws' := [(h0, .inr (3, oX0 v_count_2 (.ref h2))), (h2, .inl (k0, 256, .inl v_begins_2)), (h1, .inr (13, oX10 a1_there a1_count a1_captures a1_ranges (.ref h3) (.ref h10) (.ref h11) (.ref h12) (.ref h13) (.ref h4) (.ref h14) (.ref h5) (.ref h6) (.ref h15) (.ref h16) (.ref h17) (.ref h7) (.ref h18) (.ref h8) (.ref h9))), (h3, .inl (k1, 256, .inl a1_sort)), (h4, .inl (k2, 256, .inl a1_parts)), (h5, .inl (k3, 256, .inl a1_low)), (h6, .inl (k4, 256, .inl a1_high)), (h7, .inl (k5, 256, .inl (fun q9 => bz (a1_withinCase q9)))), (h8, .inl (k6, 512, .inl a1_rangeBegin)), (h9, .inl (k7, 512, .inl a1_rangeEnd))]) [0, 1, 7, 2, 3, 8, 4, 5, 9, 6] (by decide) rfl
        clear hPc_4 hDc_4 hKc_4 hFc_4 hP1_4 hD1_4 hk_4 hz_4
        refine lv_aload_n hx hb dX0_addParts_18 rfl (lv_at hl_b2 1 rfl) ?_
        refine lv_iload_n hx hb dX0_addParts_19 rfl (lv_at hl_b2 2 rfl) ?_
        refine lv_iload_n hx hb dX0_addParts_20 rfl (lv_at hl_b2 3 rfl) ?_
        have hPc_5 := hP_4.sub (ws' := [(h1, .inr (13, oX10 a1_there a1_count a1_captures a1_ranges (.ref h3) (.ref h10) (.ref h11) (.ref h12) (.ref h13) (.ref h4) (.ref h14) (.ref h5) (.ref h6) (.ref h15) (.ref h16) (.ref h17) (.ref h7) (.ref h18) (.ref h8) (.ref h9))), (h5, .inl (k3, 256, .inl a1_low)), (h9, .inl (k7, 512, .inl a1_rangeEnd))]) [2, 5, 9] rfl
        have hDc_5 := hD_4.sub (ws' := [(h1, .inr (13, oX10 a1_there a1_count a1_captures a1_ranges (.ref h3) (.ref h10) (.ref h11) (.ref h12) (.ref h13) (.ref h4) (.ref h14) (.ref h5) (.ref h6) (.ref h15) (.ref h16) (.ref h17) (.ref h7) (.ref h18) (.ref h8) (.ref h9))), (h5, .inl (k3, 256, .inl a1_low)), (h9, .inl (k7, 512, .inl a1_rangeEnd))]) [2, 5, 9] (by decide) rfl
        have hKc_5 := hK.sub (tys' := [(k3, .int), (k7, .int)]) [3, 7] rfl
        have hFc_5 := va_free (wc := [(h1, .inr (13, oX10 a1_there a1_count a1_captures a1_ranges (.ref h3) (.ref h10) (.ref h11) (.ref h12) (.ref h13) (.ref h4) (.ref h14) (.ref h5) (.ref h6) (.ref h15) (.ref h16) (.ref h17) (.ref h7) (.ref h18) (.ref h8) (.ref h9))), (h5, .inl (k3, 256, .inl a1_low)), (h9, .inl (k7, 512, .inl a1_rangeEnd))]) hD_4 hS_4 hA [2, 5, 9] rfl
        refine va_calli (va_runV (As := [.int p2, .int l3_2]) (rest := [.int r_4, .ref h0]) ⟨hx, hb, hml, hown, ht⟩ (mt_X10_partEnd l dC dI h1 h5 h9 h3 h10 h11 h12 h13 h4 h14 h6 h15 h16 h17 h7 h18 h8 k3 k7 p2 l3_2 a1_there a1_count a1_captures a1_ranges a1_low a1_rangeEnd _ w_4 H_4.size) (cwV 2 ht (goodV tw_1354 tw_1181 tw_1182 tw_240 gw_X10_partEnd) rfl rfl rfl (by decide +kernel) ⟨Nat.le_of_ble_eq_true rfl, Nat.le_of_ble_eq_true rfl⟩) ⟨fun a U g mk q => by obtain ⟨q0, q1, qP, qK, qD⟩ := q; exact ⟨q0, q1, qP, va_K.moved (u := U) (U := U.calling g mk a) (Vm.Alike.refl U.vm) qK, qD⟩, va_recv hKc_5 hPc_5 (ci := 13) (q0 := 0) rfl rfl, fun U hU hW => ⟨rfl, by rw [hU], by rw [hU]; exact hPc_5, va_K.moved hW.alike hKc_5, hDc_5.weaken (fun _ _ _ _ => trivial)⟩⟩ rfl rfl hl_b2.1 rfl (lv_room (Nat.le_of_ble_eq_true rfl)) dX0_addParts_21 ⟨Nat.le_of_ble_eq_true rfl, Nat.le_of_ble_eq_true rfl⟩) hS_4 (fun q _ h => hFc_5 q h) hFc_5 (fun r_5 u_5 t_5 H_5 locs_5 ht_5 hvm_5 hw_5 hB_5 hz_5 hk_5 hS_5 => ?_)
        subst hw_5
        obtain ⟨w_5, hP1_5, hD1_5⟩ := hB_5
        rw [ht_5] at hP1_5
        obtain ⟨hP_5, hD_5⟩ := va_join (wr := [(h0, .inr (3, oX0 v_count_2 (.ref h2))), (h2, .inl (k0, 256, .inl v_begins_2)), (h3, .inl (k1, 256, .inl a1_sort)), (h4, .inl (k2, 256, .inl a1_parts)), (h6, .inl (k4, 256, .inl a1_high)), (h7, .inl (k5, 256, .inl (fun q9 => bz (a1_withinCase q9)))), (h8, .inl (k6, 512, .inl a1_rangeBegin))]) (w1 := [(h1, .inr (13, oX10 a1_there a1_count a1_captures a1_ranges (.ref h3) (.ref h10) (.ref h11) (.ref h12) (.ref h13) (.ref h4) (.ref h14) (.ref h5) (.ref h6) (.ref h15) (.ref h16) (.ref h17) (.ref h7) (.ref h18) (.ref h8) (.ref h9))), (h5, .inl (k3, 256, .inl a1_low)), (h9, .inl (k7, 512, .inl a1_rangeEnd))]) hP_4 hD_4 [2, 5, 9] [0, 1, 3, 4, 6, 7, 8] rfl rfl (by decide) (by decide) hk_5 hFc_5 hP1_5 hD1_5
        have hP_5 := hP_5.sub (ws' := [(h0, .inr (3, oX0 v_count_2 (.ref h2))), (h2, .inl (k0, 256, .inl v_begins_2)), (h1, .inr (13, oX10 a1_there a1_count a1_captures a1_ranges (.ref h3) (.ref h10) (.ref h11) (.ref h12) (.ref h13) (.ref h4) (.ref h14) (.ref h5) (.ref h6) (.ref h15) (.ref h16) (.ref h17) (.ref h7) (.ref h18) (.ref h8) (.ref h9))), (h3, .inl (k1, 256, .inl a1_sort)), (h4, .inl (k2, 256, .inl a1_parts)), (h5, .inl (k3, 256, .inl a1_low)), (h6, .inl (k4, 256, .inl a1_high)), (h7, .inl (k5, 256, .inl (fun q9 => bz (a1_withinCase q9)))), (h8, .inl (k6, 512, .inl a1_rangeBegin)), (h9, .inl (k7, 512, .inl a1_rangeEnd))]) [0, 1, 7, 2, 3, 8, 4, 5, 6, 9] rfl
        have hD_5 := hD_5.sub (ws' := [(h0, .inr (3, oX0 v_count_2 (.ref h2))), (h2, .inl (k0, 256, .inl v_begins_2)), (h1, .inr (13, oX10 a1_there a1_count a1_captures a1_ranges (.ref h3) (.ref h10) (.ref h11) (.ref h12) (.ref h13) (.ref h4) (.ref h14) (.ref h5) (.ref h6) (.ref h15) (.ref h16) (.ref h17) (.ref h7) (.ref h18) (.ref h8) (.ref h9))), (h3, .inl (k1, 256, .inl a1_sort)), (h4, .inl (k2, 256, .inl a1_parts)), (h5, .inl (k3, 256, .inl a1_low)), (h6, .inl (k4, 256, .inl a1_high)), (h7, .inl (k5, 256, .inl (fun q9 => bz (a1_withinCase q9)))), (h8, .inl (k6, 512, .inl a1_rangeBegin)), (h9, .inl (k7, 512, .inl a1_rangeEnd))]) [0, 1, 7, 2, 3, 8, 4, 5, 6, 9] (by decide) rfl
        clear hPc_5 hDc_5 hKc_5 hFc_5 hP1_5 hD1_5 hk_5 hz_5
        refine lv_aload_n hx hb dX0_addParts_24 rfl (lv_at hl_b2 1 rfl) ?_
        refine lv_iload_n hx hb dX0_addParts_25 rfl (lv_at hl_b2 2 rfl) ?_
        have hPc_6 := hP_5.sub (ws' := [(h1, .inr (13, oX10 a1_there a1_count a1_captures a1_ranges (.ref h3) (.ref h10) (.ref h11) (.ref h12) (.ref h13) (.ref h4) (.ref h14) (.ref h5) (.ref h6) (.ref h15) (.ref h16) (.ref h17) (.ref h7) (.ref h18) (.ref h8) (.ref h9))), (h7, .inl (k5, 256, .inl (fun q9 => bz (a1_withinCase q9))))]) [2, 7] rfl
        have hDc_6 := hD_5.sub (ws' := [(h1, .inr (13, oX10 a1_there a1_count a1_captures a1_ranges (.ref h3) (.ref h10) (.ref h11) (.ref h12) (.ref h13) (.ref h4) (.ref h14) (.ref h5) (.ref h6) (.ref h15) (.ref h16) (.ref h17) (.ref h7) (.ref h18) (.ref h8) (.ref h9))), (h7, .inl (k5, 256, .inl (fun q9 => bz (a1_withinCase q9))))]) [2, 7] (by decide) rfl
        have hKc_6 := hK.sub (tys' := [(k5, .boolean)]) [5] rfl
        have hFc_6 := va_free (wc := [(h1, .inr (13, oX10 a1_there a1_count a1_captures a1_ranges (.ref h3) (.ref h10) (.ref h11) (.ref h12) (.ref h13) (.ref h4) (.ref h14) (.ref h5) (.ref h6) (.ref h15) (.ref h16) (.ref h17) (.ref h7) (.ref h18) (.ref h8) (.ref h9))), (h7, .inl (k5, 256, .inl (fun q9 => bz (a1_withinCase q9))))]) hD_5 hS_5 hA [2, 7] rfl
        refine va_calli (va_runV (As := [.int p2]) (rest := [.int r_5, .int r_4, .ref h0]) ⟨hx, hb, hml, hown, ht⟩ (mt_X10_isWithinCase l dC dI h1 h7 h3 h10 h11 h12 h13 h4 h14 h5 h6 h15 h16 h17 h18 h8 h9 k5 p2 a1_there a1_count a1_captures a1_ranges a1_withinCase _ w_5 H_5.size) (cwV 1 ht (goodV tw_1336 tw_1082 tw_1083 tw_240 gw_X10_isWithinCase) rfl rfl rfl (by decide +kernel) ⟨Nat.le_of_ble_eq_true rfl, Nat.le_of_ble_eq_true rfl⟩) ⟨fun a U g mk q => by obtain ⟨q0, q1, qP, qK, qD⟩ := q; exact ⟨q0, q1, qP, va_K.moved (u := U) (U := U.calling g mk a) (Vm.Alike.refl U.vm) qK, qD⟩, va_recv hKc_6 hPc_6 (ci := 13) (q0 := 0) rfl rfl, fun U hU hW => ⟨rfl, by rw [hU], by rw [hU]; exact hPc_6, va_K.moved hW.alike hKc_6, hDc_6.weaken (fun _ _ _ _ => trivial)⟩⟩ rfl rfl hl_b2.1 rfl (lv_room (Nat.le_of_ble_eq_true rfl)) dX0_addParts_26 ⟨Nat.le_of_ble_eq_true rfl, Nat.le_of_ble_eq_true rfl⟩) hS_5 (fun q _ h => hFc_6 q h) hFc_6 (fun r_6 u_6 t_6 H_6 locs_6 ht_6 hvm_6 hw_6 hB_6 hz_6 hk_6 hS_6 => ?_)
        subst hw_6
        obtain ⟨w_6, hP1_6, hD1_6⟩ := hB_6
        rw [ht_6] at hP1_6
        obtain ⟨hP_6, hD_6⟩ := va_join (wr := [(h0, .inr (3, oX0 v_count_2 (.ref h2))), (h2, .inl (k0, 256, .inl v_begins_2)), (h3, .inl (k1, 256, .inl a1_sort)), (h4, .inl (k2, 256, .inl a1_parts)), (h5, .inl (k3, 256, .inl a1_low)), (h6, .inl (k4, 256, .inl a1_high)), (h8, .inl (k6, 512, .inl a1_rangeBegin)), (h9, .inl (k7, 512, .inl a1_rangeEnd))]) (w1 := [(h1, .inr (13, oX10 a1_there a1_count a1_captures a1_ranges (.ref h3) (.ref h10) (.ref h11) (.ref h12) (.ref h13) (.ref h4) (.ref h14) (.ref h5) (.ref h6) (.ref h15) (.ref h16) (.ref h17) (.ref h7) (.ref h18) (.ref h8) (.ref h9))), (h7, .inl (k5, 256, .inl (fun q9 => bz (a1_withinCase q9))))]) hP_5 hD_5 [2, 7] [0, 1, 3, 4, 5, 6, 8, 9] rfl rfl (by decide) (by decide) hk_6 hFc_6 hP1_6 hD1_6
        have hP_6 := hP_6.sub (ws' := [(h0, .inr (3, oX0 v_count_2 (.ref h2))), (h2, .inl (k0, 256, .inl v_begins_2)), (h1, .inr (13, oX10 a1_there a1_count a1_captures a1_ranges (.ref h3) (.ref h10) (.ref h11) (.ref h12) (.ref h13) (.ref h4) (.ref h14) (.ref h5) (.ref h6) (.ref h15) (.ref h16) (.ref h17) (.ref h7) (.ref h18) (.ref h8) (.ref h9))), (h3, .inl (k1, 256, .inl a1_sort)), (h4, .inl (k2, 256, .inl a1_parts)), (h5, .inl (k3, 256, .inl a1_low)), (h6, .inl (k4, 256, .inl a1_high)), (h7, .inl (k5, 256, .inl (fun q9 => bz (a1_withinCase q9)))), (h8, .inl (k6, 512, .inl a1_rangeBegin)), (h9, .inl (k7, 512, .inl a1_rangeEnd))]) [0, 1, 8, 2, 3, 4, 5, 9, 6, 7] rfl
        have hD_6 := hD_6.sub (ws' := [(h0, .inr (3, oX0 v_count_2 (.ref h2))), (h2, .inl (k0, 256, .inl v_begins_2)), (h1, .inr (13, oX10 a1_there a1_count a1_captures a1_ranges (.ref h3) (.ref h10) (.ref h11) (.ref h12) (.ref h13) (.ref h4) (.ref h14) (.ref h5) (.ref h6) (.ref h15) (.ref h16) (.ref h17) (.ref h7) (.ref h18) (.ref h8) (.ref h9))), (h3, .inl (k1, 256, .inl a1_sort)), (h4, .inl (k2, 256, .inl a1_parts)), (h5, .inl (k3, 256, .inl a1_low)), (h6, .inl (k4, 256, .inl a1_high)), (h7, .inl (k5, 256, .inl (fun q9 => bz (a1_withinCase q9)))), (h8, .inl (k6, 512, .inl a1_rangeBegin)), (h9, .inl (k7, 512, .inl a1_rangeEnd))]) [0, 1, 8, 2, 3, 4, 5, 9, 6, 7] (by decide) rfl
        clear hPc_6 hDc_6 hKc_6 hFc_6 hP1_6 hD1_6 hk_6 hz_6
        have hPc_7 := hP_6.sub (ws' := [(h0, .inr (3, oX0 v_count_2 (.ref h2))), (h2, .inl (k0, 256, .inl v_begins_2))]) [0, 1] rfl
        have hDc_7 := hD_6.sub (ws' := [(h0, .inr (3, oX0 v_count_2 (.ref h2))), (h2, .inl (k0, 256, .inl v_begins_2))]) [0, 1] (by decide) rfl
        have hKc_7 := hK.sub (tys' := [(k0, .int)]) [0] rfl
        have hFc_7 := va_free (wc := [(h0, .inr (3, oX0 v_count_2 (.ref h2))), (h2, .inl (k0, 256, .inl v_begins_2))]) hD_6 hS_6 hA [0, 1] rfl
        refine va_callv (va_runV (As := [.int r_4, .int r_5, .int r_6]) (rest := []) ⟨hx, hb, hml, hown, ht⟩ (mt_X0_addRange l dC dI h0 h2 k0 r_4 r_5 r_6 v_count_2 v_begins_2 _ w_6 H_6.size) (cwV 3 ht (goodV tw_1337 tw_1339 tw_58 tw_247 gw_X0_addRange) rfl rfl rfl (by decide +kernel) ⟨Nat.le_of_ble_eq_true rfl, Nat.le_of_ble_eq_true rfl⟩) ⟨fun a U g mk q => by obtain ⟨q0, q1, qP, qK, qD⟩ := q; exact ⟨q0, q1, qP, va_K.moved (u := U) (U := U.calling g mk a) (Vm.Alike.refl U.vm) qK, qD⟩, va_recv hKc_7 hPc_7 (ci := 3) (q0 := 0) rfl rfl, fun U hU hW => ⟨rfl, by rw [hU], by rw [hU]; exact hPc_7, va_K.moved hW.alike hKc_7, hDc_7.weaken (fun _ _ _ _ => trivial)⟩⟩ rfl rfl hl_b2.1 rfl (lv_room (Nat.le_of_ble_eq_true rfl)) dX0_addParts_29 ⟨Nat.le_of_ble_eq_true rfl, Nat.le_of_ble_eq_true rfl⟩) hS_6 (fun q _ h => hFc_7 q h) hFc_7 (fun u_7 t_7 H_7 locs_7 ht_7 hvm_7 hw_7 hB_7 hz_7 hk_7 hS_7 => ?_)
        subst hw_7
        obtain ⟨r_7_0, r_7_1, w_7, hP1_7, hD1_7⟩ := hB_7
        rw [ht_7] at hP1_7
        obtain ⟨hP_7, hD_7⟩ := va_join (wr := [(h1, .inr (13, oX10 a1_there a1_count a1_captures a1_ranges (.ref h3) (.ref h10) (.ref h11) (.ref h12) (.ref h13) (.ref h4) (.ref h14) (.ref h5) (.ref h6) (.ref h15) (.ref h16) (.ref h17) (.ref h7) (.ref h18) (.ref h8) (.ref h9))), (h3, .inl (k1, 256, .inl a1_sort)), (h4, .inl (k2, 256, .inl a1_parts)), (h5, .inl (k3, 256, .inl a1_low)), (h6, .inl (k4, 256, .inl a1_high)), (h7, .inl (k5, 256, .inl (fun q9 => bz (a1_withinCase q9)))), (h8, .inl (k6, 512, .inl a1_rangeBegin)), (h9, .inl (k7, 512, .inl a1_rangeEnd))]) (w1 := [(h0, .inr (3, oX0 r_7_0 (.ref h2))), (h2, .inl (k0, 256, .inl r_7_1))]) hP_6 hD_6 [0, 1] [2, 3, 4, 5, 6, 7, 8, 9] rfl rfl (by decide) (by decide) hk_7 hFc_7 hP1_7 hD1_7
        have hP_7 := hP_7.sub (ws' := [(h0, .inr (3, oX0 r_7_0 (.ref h2))), (h2, .inl (k0, 256, .inl r_7_1)), (h1, .inr (13, oX10 a1_there a1_count a1_captures a1_ranges (.ref h3) (.ref h10) (.ref h11) (.ref h12) (.ref h13) (.ref h4) (.ref h14) (.ref h5) (.ref h6) (.ref h15) (.ref h16) (.ref h17) (.ref h7) (.ref h18) (.ref h8) (.ref h9))), (h3, .inl (k1, 256, .inl a1_sort)), (h4, .inl (k2, 256, .inl a1_parts)), (h5, .inl (k3, 256, .inl a1_low)), (h6, .inl (k4, 256, .inl a1_high)), (h7, .inl (k5, 256, .inl (fun q9 => bz (a1_withinCase q9)))), (h8, .inl (k6, 512, .inl a1_rangeBegin)), (h9, .inl (k7, 512, .inl a1_rangeEnd))]) [8, 9, 0, 1, 2, 3, 4, 5, 6, 7] rfl
        have hD_7 := hD_7.sub (ws' := [(h0, .inr (3, oX0 r_7_0 (.ref h2))), (h2, .inl (k0, 256, .inl r_7_1)), (h1, .inr (13, oX10 a1_there a1_count a1_captures a1_ranges (.ref h3) (.ref h10) (.ref h11) (.ref h12) (.ref h13) (.ref h4) (.ref h14) (.ref h5) (.ref h6) (.ref h15) (.ref h16) (.ref h17) (.ref h7) (.ref h18) (.ref h8) (.ref h9))), (h3, .inl (k1, 256, .inl a1_sort)), (h4, .inl (k2, 256, .inl a1_parts)), (h5, .inl (k3, 256, .inl a1_low)), (h6, .inl (k4, 256, .inl a1_high)), (h7, .inl (k5, 256, .inl (fun q9 => bz (a1_withinCase q9)))), (h8, .inl (k6, 512, .inl a1_rangeBegin)), (h9, .inl (k7, 512, .inl a1_rangeEnd))]) [8, 9, 0, 1, 2, 3, 4, 5, 6, 7] (by decide) rfl
        clear hPc_7 hDc_7 hKc_7 hFc_7 hP1_7 hD1_7 hk_7 hz_7
        obtain ⟨x_8, ex_8⟩ : ∃ y : Int32, y = l3_2 + 1 := ⟨_, rfl⟩
        refine lv_iinc (v := x_8) (lv' := [(3, .int x_8), (0, .ref h0), (1, .ref h1), (2, .int p2)]) hx hb dX0_addParts_32 hl_b2 (k := 3) rfl ex_8.symm (by decide) rfl (fun ls_8 hl_8 => ?_)
        refine lv_goto (tgt := 2) hx hb dX0_addParts_35 (by decide) ?_
        exact ih_2 x_8 r_7_0 r_7_1 _ _ _ (w_7 x_8 ex_8) hP_7 hD_7 hS_7 (lv_sub hl_8 [1, 2, 3, 0] rfl)
  obtain ⟨n_9, w_9⟩ := w
  exact k_2 n_9 0 v_count v_begins _ _ _ w_9 hP hD hS (lv_sub hl_1 [1, 2, 3, 0] rfl)
