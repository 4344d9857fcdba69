def w_X11_put_19 (Q : Int32 → Int32 → Int32 → Int32 → Bool → Bool → (Nat → Int32) → Prop) (v_openSlot_19 : Int32) (v_openSubject_19 : Int32) (v_subjects_p1_count_19 : Int32) (v_subjects_p1_over_19 : Bool) (v_subjects_p1_there_19 : Bool) (v_subjects_p1_items_19 : Nat → Int32) : Prop :=
  Q (-4) v_openSlot_19 v_openSubject_19 v_subjects_p1_count_19 v_subjects_p1_over_19 v_subjects_p1_there_19 v_subjects_p1_items_19
def w_X11_put_50B (p1 : Int32) (p3 : Int64) (nv_subjects_p1_items : Nat) (Q : Int32 → Int32 → Int32 → Int32 → Bool → Bool → (Nat → Int32) → Prop) (K50 : Int32 → Int32 → Bool → (Nat → Int32) → Prop) (v_openSlot_50 : Int32) (v_openSubject_50 : Int32) (v_subjects_p1_there_50 : Bool) (l6_50 : Int32) (v_subjects_p1_count_50 : Int32) (v_subjects_p1_over_50 : Bool) (v_subjects_p1_items_50 : Nat → Int32) : Prop :=
  ((l6_50 < 0) → w_X11_endSearchOver p1 v_openSlot_50 v_openSubject_50 (fun r_13_0 r_13_1 => Q v_subjects_p1_count_50 r_13_0 r_13_1 v_subjects_p1_count_50 v_subjects_p1_over_50 true v_subjects_p1_items_50)) ∧ ((¬ l6_50 < 0) → ∀ x_14 : Int32, x_14 = (16 : Int32) * l6_50 → ∀ y_15 : Int64, y_15 = (p3.toUInt64 >>> (x_14.toInt64.toUInt64 &&& Int64.toUInt64 63)).toInt64 → ∀ x_16 : Int32, x_16 = y_15.toInt32 → ∀ x_17 : Int32, x_17 = x_16 &&& (65535 : Int32) → w_X7_add x_17 v_subjects_p1_count_50 v_subjects_p1_over_50 v_subjects_p1_items_50 nv_subjects_p1_items (fun r_18_0 r_18_1 r_18_2 => ∀ x_20 : Int32, x_20 = l6_50 + (-1) → K50 x_20 r_18_0 r_18_1 r_18_2))
def w_X11_put_50 (p1 : Int32) (p3 : Int64) (nv_subjects_p1_items : Nat) (Q : Int32 → Int32 → Int32 → Int32 → Bool → Bool → (Nat → Int32) → Prop) (v_openSlot_50 : Int32) (v_openSubject_50 : Int32) (v_subjects_p1_there_50 : Bool) : Nat → Int32 → Int32 → Bool → (Nat → Int32) → Prop
  | 0, _, _, _, _ => False
  | n9 + 1, l6_50, v_subjects_p1_count_50, v_subjects_p1_over_50, v_subjects_p1_items_50 => w_X11_put_50B p1 p3 nv_subjects_p1_items Q (w_X11_put_50 p1 p3 nv_subjects_p1_items Q v_openSlot_50 v_openSubject_50 v_subjects_p1_there_50 n9) v_openSlot_50 v_openSubject_50 v_subjects_p1_there_50 l6_50 v_subjects_p1_count_50 v_subjects_p1_over_50 v_subjects_p1_items_50
def w_X11_put (p1 : Int32) (p2 : Int32) (p3 : Int64) (v_openSlot : Int32) (v_openSubject : Int32) (v_subjects : Nat → Option Nat) (v_subjects_p1_count : Int32) (v_subjects_p1_over : Bool) (v_subjects_p1_there : Bool) (v_subjects_p1_items : Nat → Int32) (nv_subjects_p1_items : Nat) (h2 : Nat) (Q : Int32 → Int32 → Int32 → Int32 → Bool → Bool → (Nat → Int32) → Prop) : Prop :=
  w_X11_isSubject p1 (fun r_1 => ((¬ r_1 = 0) → ((p2 < 0) → w_X11_put_19 Q v_openSlot v_openSubject v_subjects_p1_count v_subjects_p1_over v_subjects_p1_there v_subjects_p1_items) ∧ ((¬ p2 < 0) → ((p2 ≤ 4) → vp_in p1 4 ∧ v_subjects p1.toNatClampNeg = some h2 ∧ ∀ x_6 : Int32, x_6 = v_subjects_p1_count + p2 → ((x_6 ≤ 100) → ∀ x_9 : Int32, x_9 = p2 - (1 : Int32) → ∃ k9 : Nat, w_X11_put_50 p1 p3 nv_subjects_p1_items Q v_openSlot v_openSubject v_subjects_p1_there k9 x_9 v_subjects_p1_count v_subjects_p1_over v_subjects_p1_items) ∧ ((¬ x_6 ≤ 100) → Q (-9) v_openSlot v_openSubject v_subjects_p1_count v_subjects_p1_over v_subjects_p1_there v_subjects_p1_items)) ∧ ((¬ p2 ≤ 4) → w_X11_put_19 Q v_openSlot v_openSubject v_subjects_p1_count v_subjects_p1_over v_subjects_p1_there v_subjects_p1_items))) ∧ ((r_1 = 0) → Q (-2) v_openSlot v_openSubject v_subjects_p1_count v_subjects_p1_over v_subjects_p1_there v_subjects_p1_items))
set_option maxHeartbeats 4000000 in
set_option maxRecDepth 100000 in
theorem mt_X11_put (l : Launch) (dC : Nat → ClassId) (dI : Nat → Nat → Nat) (h0 h1 h2 h3 h4 h5 h6 h7 h8 h9 h10 h11 h12 h13 h14 h15 h16 h17 : Nat) (k0 k1 : ClassId) (p1 : Int32) (p2 : Int32) (p3 : Int64) (v_outHasNumbers : Bool) (v_faultPlace : Int32) (v_latestFinding : Int32) (v_latestSteps : Int32) (v_openSlot : Int32) (v_openSubject : Int32) (v_subjects : Nat → Option Nat) (v_subjects_p1_count : Int32) (v_subjects_p1_over : Bool) (v_subjects_p1_there : Bool) (v_subjects_p1_items : Nat → Int32) (nv_subjects_p1_items : Nat) (Q : Int32 → Int32 → Int32 → Int32 → Bool → Bool → (Nat → Int32) → Prop) (w : w_X11_put p1 p2 p3 v_openSlot v_openSubject v_subjects v_subjects_p1_count v_subjects_p1_over v_subjects_p1_there v_subjects_p1_items nv_subjects_p1_items h2 Q) (sz : Nat) : Met l yX11_put (WS yX11_put cX11_put 7 (some (.int))) ({ frames := 2, cells := 0, slots := 0, locals := 41 } : Room) (va_Pc [.ref h0, .int p1, .int p2, .long p3] (fun U => U.heap.size = sz ∧ va_P (dC, dI) vwCl [(h0, .inr (14, oX11 (.ref h4) (.ref h5) (.ref h1) (.ref h6) v_outHasNumbers (.ref h7) (.ref h8) (.ref h9) (.ref h10) (.ref h11) (.ref h12) (.ref h13) (.ref h14) v_faultPlace v_latestFinding v_latestSteps v_openSlot v_openSubject)), (h1, .inl (k0, 4, .inr (.inr (.inr (.inr v_subjects))))), (h2, .inr (10, oX7 (.ref h3) v_subjects_p1_count v_subjects_p1_over v_subjects_p1_there)), (h3, .inl (k1, nv_subjects_p1_items, .inl v_subjects_p1_items))] U.heap ∧ va_K (dC, dI) vwCl [(k0, .object "PatternWorkshop$Row"), (k1, .int)] U ∧ va_D (fun _ => True) [(h0, .inr (14, oX11 (.ref h4) (.ref h5) (.ref h1) (.ref h6) v_outHasNumbers (.ref h7) (.ref h8) (.ref h9) (.ref h10) (.ref h11) (.ref h12) (.ref h13) (.ref h14) v_faultPlace v_latestFinding v_latestSteps v_openSlot v_openSubject)), (h1, .inl (k0, 4, .inr (.inr (.inr (.inr v_subjects))))), (h2, .inr (10, oX7 (.ref h3) v_subjects_p1_count v_subjects_p1_over v_subjects_p1_there)), (h3, .inl (k1, nv_subjects_p1_items, .inl v_subjects_p1_items))])) (va_Qi (fun (r u : Int32) => r = u) (fun (u : Int32) (t : State) => ∃ (ov_openSlot : Int32), ∃ (ov_openSubject : Int32), ∃ (ov_subjects_p1_count : Int32), ∃ (ov_subjects_p1_over : Bool), ∃ (ov_subjects_p1_there : Bool), ∃ (ov_subjects_p1_items : Nat → Int32), (Q u ov_openSlot ov_openSubject ov_subjects_p1_count ov_subjects_p1_over ov_subjects_p1_there ov_subjects_p1_items) ∧ va_P (dC, dI) vwCl [(h0, .inr (14, oX11 (.ref h4) (.ref h5) (.ref h1) (.ref h6) v_outHasNumbers (.ref h7) (.ref h8) (.ref h9) (.ref h10) (.ref h11) (.ref h12) (.ref h13) (.ref h14) v_faultPlace v_latestFinding v_latestSteps ov_openSlot ov_openSubject)), (h1, .inl (k0, 4, .inr (.inr (.inr (.inr v_subjects))))), (h2, .inr (10, oX7 (.ref h3) ov_subjects_p1_count ov_subjects_p1_over ov_subjects_p1_there)), (h3, .inl (k1, nv_subjects_p1_items, .inl ov_subjects_p1_items))] t.heap ∧ va_D (va_A [(h0, .inr (14, oX11 (.ref h4) (.ref h5) (.ref h1) (.ref h6) v_outHasNumbers (.ref h7) (.ref h8) (.ref h9) (.ref h10) (.ref h11) (.ref h12) (.ref h13) (.ref h14) v_faultPlace v_latestFinding v_latestSteps v_openSlot v_openSubject)), (h1, .inl (k0, 4, .inr (.inr (.inr (.inr v_subjects))))), (h2, .inr (10, oX7 (.ref h3) v_subjects_p1_count v_subjects_p1_over v_subjects_p1_there)), (h3, .inl (k1, nv_subjects_p1_items, .inl v_subjects_p1_items))] sz) [(h0, .inr (14, oX11 (.ref h4) (.ref h5) (.ref h1) (.ref h6) v_outHasNumbers (.ref h7) (.ref h8) (.ref h9) (.ref h10) (.ref h11) (.ref h12) (.ref h13) (.ref h14) v_faultPlace v_latestFinding v_latestSteps ov_openSlot ov_openSubject)), (h1, .inl (k0, 4, .inr (.inr (.inr (.inr v_subjects))))), (h2, .inr (10, oX7 (.ref h3) ov_subjects_p1_count ov_subjects_p1_over ov_subjects_p1_there)), (h3, .inl (k1, nv_subjects_p1_items, .inl ov_subjects_p1_items))]) (va_A [(h0, .inr (14, oX11 (.ref h4) (.ref h5) (.ref h1) (.ref h6) v_outHasNumbers (.ref h7) (.ref h8) (.ref h9) (.ref h10) (.ref h11) (.ref h12) (.ref h13) (.ref h14) v_faultPlace v_latestFinding v_latestSteps v_openSlot v_openSubject)), (h1, .inl (k0, 4, .inr (.inr (.inr (.inr v_subjects))))), (h2, .inr (10, oX7 (.ref h3) v_subjects_p1_count v_subjects_p1_over v_subjects_p1_there)), (h3, .inl (k1, nv_subjects_p1_items, .inl v_subjects_p1_items))] sz)) 0 0 (va_A [(h0, .inr (14, oX11 (.ref h4) (.ref h5) (.ref h1) (.ref h6) v_outHasNumbers (.ref h7) (.ref h8) (.ref h9) (.ref h10) (.ref h11) (.ref h12) (.ref h13) (.ref h14) v_faultPlace v_latestFinding v_latestSteps v_openSlot v_openSubject)), (h1, .inl (k0, 4, .inr (.inr (.inr (.inr v_subjects))))), (h2, .inr (10, oX7 (.ref h3) v_subjects_p1_count v_subjects_p1_over v_subjects_p1_there)), (h3, .inl (k1, nv_subjects_p1_items, .inl v_subjects_p1_items))] sz) := by
  refine Met.ofW (cc := cX11_put) (maxL := 7) (ret := (some (.int))) (by decide) rfl ?_
  intro p e s m args below meth c s₁ B hml hv
  obtain ⟨rfl, hsz, hP, hK, hD0⟩ := hv
  have hx := B.exec
  have hb := B.bytes
  have hr := B.returns
  have hts := atoms_spec (ws := WS yX11_put cX11_put 7 (some (.int))) B.pre
  have ht : ∀ w ∈ TW, w.before _ s = true := fun w h => hts w (List.mem_cons_of_mem _ h)
  have hown : s.vm.findClass "PatternWorkshop" = some m.cls := findClass_of_methodNamed B.named
  have hlocks := B.notSynchronized
  subst hsz
  have hD := hD0.self (sz := s.heap.size)
  generalize hAe : va_A [(h0, .inr (14, oX11 (.ref h4) (.ref h5) (.ref h1) (.ref h6) v_outHasNumbers (.ref h7) (.ref h8) (.ref h9) (.ref h10) (.ref h11) (.ref h12) (.ref h13) (.ref h14) v_faultPlace v_latestFinding v_latestSteps v_openSlot v_openSubject)), (h1, .inl (k0, 4, .inr (.inr (.inr (.inr v_subjects))))), (h2, .inr (10, oX7 (.ref h3) v_subjects_p1_count v_subjects_p1_over v_subjects_p1_there)), (h3, .inl (k1, nv_subjects_p1_items, .inl v_subjects_p1_items))] s.heap.size = A at hD ⊢
  have hA : ∀ q : Nat, s.heap.size ≤ q → A q := fun q h => by rw [← hAe]; exact Or.inr h
  have hS : va_S A s.heap s.heap [] := va_S.rf
  have hP : va_P (dC, dI) vwCl [(h0, .inr (14, oX11 (.ref h4) (.ref h5) (.ref h1) (.ref h6) v_outHasNumbers (.ref h7) (.ref h8) (.ref h9) (.ref h10) (.ref h11) (.ref h12) (.ref h13) (.ref h14) v_faultPlace v_latestFinding v_latestSteps v_openSlot v_openSubject)), (h1, .inl (k0, 4, .inr (.inr (.inr (.inr v_subjects))))), (h2, .inr (10, oX7 (.ref h3) v_subjects_p1_count v_subjects_p1_over v_subjects_p1_there)), (h3, .inl (k1, nv_subjects_p1_items, .inl v_subjects_p1_items))] s.heap := hP
  have hl := lv_entry ([.ref h0, .int p1, .int p2, .long p3]) (n := 7) (Nat.le_of_ble_eq_true rfl)
  rw [lg_entry_eq]
  generalize (lg_sl ([.ref h0, .int p1, .int p2, .long p3]) ++ List.replicate (7 - (lg_sl ([.ref h0, .int p1, .int p2, .long p3])).length) Slot.unset).toArray = ls at hl ⊢
  have hl : lv_has ls 7 [(0, .ref h0), (1, .int p1), (2, .int p2), (3, .long p3)] := hl
  clear hD0
  obtain ⟨QQ, hQQ⟩ : ∃ QQ, QQ = MQ below (va_Qi (fun (r u : Int32) => r = u) (fun (u : Int32) (t : State) => ∃ (ov_openSlot : Int32), ∃ (ov_openSubject : Int32), ∃ (ov_subjects_p1_count : Int32), ∃ (ov_subjects_p1_over : Bool), ∃ (ov_subjects_p1_there : Bool), ∃ (ov_subjects_p1_items : Nat → Int32), (Q u ov_openSlot ov_openSubject ov_subjects_p1_count ov_subjects_p1_over ov_subjects_p1_there ov_subjects_p1_items) ∧ va_P (dC, dI) vwCl [(h0, .inr (14, oX11 (.ref h4) (.ref h5) (.ref h1) (.ref h6) v_outHasNumbers (.ref h7) (.ref h8) (.ref h9) (.ref h10) (.ref h11) (.ref h12) (.ref h13) (.ref h14) v_faultPlace v_latestFinding v_latestSteps ov_openSlot ov_openSubject)), (h1, .inl (k0, 4, .inr (.inr (.inr (.inr v_subjects))))), (h2, .inr (10, oX7 (.ref h3) ov_subjects_p1_count ov_subjects_p1_over ov_subjects_p1_there)), (h3, .inl (k1, nv_subjects_p1_items, .inl ov_subjects_p1_items))] t.heap ∧ va_D A [(h0, .inr (14, oX11 (.ref h4) (.ref h5) (.ref h1) (.ref h6) v_outHasNumbers (.ref h7) (.ref h8) (.ref h9) (.ref h10) (.ref h11) (.ref h12) (.ref h13) (.ref h14) v_faultPlace v_latestFinding v_latestSteps ov_openSlot ov_openSubject)), (h1, .inl (k0, 4, .inr (.inr (.inr (.inr v_subjects))))), (h2, .inr (10, oX7 (.ref h3) ov_subjects_p1_count ov_subjects_p1_over ov_subjects_p1_there)), (h3, .inl (k1, nv_subjects_p1_items, .inl ov_subjects_p1_items))]) A) ([.ref h0, .int p1, .int p2, .long p3]).toArray s 0 0 A := ⟨_, rfl⟩
  show W p l e ({ frames := 2, cells := 0, slots := 0, locals := 41 } : Room) s m ([.ref h0, .int p1, .int p2, .long p3]).toArray below meth c s.heap [] 0 0 (MQ below (va_Qi (fun (r u : Int32) => r = u) (fun (u : Int32) (t : State) => ∃ (ov_openSlot : Int32), ∃ (ov_openSubject : Int32), ∃ (ov_subjects_p1_count : Int32), ∃ (ov_subjects_p1_over : Bool), ∃ (ov_subjects_p1_there : Bool), ∃ (ov_subjects_p1_items : Nat → Int32), (Q u ov_openSlot ov_openSubject ov_subjects_p1_count ov_subjects_p1_over ov_subjects_p1_there ov_subjects_p1_items) ∧ va_P (dC, dI) vwCl [(h0, .inr (14, oX11 (.ref h4) (.ref h5) (.ref h1) (.ref h6) v_outHasNumbers (.ref h7) (.ref h8) (.ref h9) (.ref h10) (.ref h11) (.ref h12) (.ref h13) (.ref h14) v_faultPlace v_latestFinding v_latestSteps ov_openSlot ov_openSubject)), (h1, .inl (k0, 4, .inr (.inr (.inr (.inr v_subjects))))), (h2, .inr (10, oX7 (.ref h3) ov_subjects_p1_count ov_subjects_p1_over ov_subjects_p1_there)), (h3, .inl (k1, nv_subjects_p1_items, .inl ov_subjects_p1_items))] t.heap ∧ va_D A [(h0, .inr (14, oX11 (.ref h4) (.ref h5) (.ref h1) (.ref h6) v_outHasNumbers (.ref h7) (.ref h8) (.ref h9) (.ref h10) (.ref h11) (.ref h12) (.ref h13) (.ref h14) v_faultPlace v_latestFinding v_latestSteps ov_openSlot ov_openSubject)), (h1, .inl (k0, 4, .inr (.inr (.inr (.inr v_subjects))))), (h2, .inr (10, oX7 (.ref h3) ov_subjects_p1_count ov_subjects_p1_over ov_subjects_p1_there)), (h3, .inl (k1, nv_subjects_p1_items, .inl ov_subjects_p1_items))]) A) ([.ref h0, .int p1, .int p2, .long p3]).toArray s 0 0 A) (F0 m 0 ls [])
  rw [← hQQ]
  unfold w_X11_put at w
  refine lv_iload_n hx hb dX11_put_0 rfl (lv_at hl 1 rfl) ?_
  have hPc_1 := hP.sub (ws' := []) [] rfl
  have hDc_1 := hD.sub (ws' := []) [] (by decide) rfl
  have hKc_1 := hK.sub (tys' := []) [] rfl
  have hFc_1 := va_free (wc := []) hD hS hA [] rfl
  refine va_calli (va_runS (As := [.int p1]) (rest := []) ⟨hx, hb, hml, hown, ht⟩ (mt_X11_isSubject l dC dI p1 _ w s.heap.size) (cwS 1 ht (goodS tw_1411 tw_1412 tw_236 gw_X11_isSubject) rfl rfl rfl (by decide +kernel) ⟨Nat.le_of_ble_eq_true rfl, Nat.le_of_ble_eq_true rfl⟩) ⟨fun a U g mk q => by obtain ⟨q0, q1, qP, qK, qD⟩ := q; exact ⟨q0, q1, qP, va_K.moved (u := U) (U := U.calling g mk a) (Vm.Alike.refl U.vm) qK, qD⟩, fun U hU hW => ⟨rfl, by rw [hU], by rw [hU]; exact hPc_1, va_K.moved hW.alike hKc_1, hDc_1.weaken (fun _ _ _ _ => trivial)⟩⟩ rfl rfl hl.1 rfl (lv_room (Nat.le_of_ble_eq_true rfl)) dX11_put_1 ⟨Nat.le_of_ble_eq_true rfl, Nat.le_of_ble_eq_true rfl⟩) hS (fun q _ h => hFc_1 q h) hFc_1 (fun r_1 u_1 t_1 H_1 locs_1 ht_1 hvm_1 hw_1 hB_1 hz_1 hk_1 hS_1 => ?_)
  subst hw_1
  obtain ⟨w_1, hP1_1, hD1_1⟩ := hB_1
  rw [ht_1] at hP1_1
  obtain ⟨hP_1, hD_1⟩ := va_join (wr := [(h0, .inr (14, oX11 (.ref h4) (.ref h5) (.ref h1) (.ref h6) v_outHasNumbers (.ref h7) (.ref h8) (.ref h9) (.ref h10) (.ref h11) (.ref h12) (.ref h13) (.ref h14) v_faultPlace v_latestFinding v_latestSteps v_openSlot v_openSubject)), (h1, .inl (k0, 4, .inr (.inr (.inr (.inr v_subjects))))), (h2, .inr (10, oX7 (.ref h3) v_subjects_p1_count v_subjects_p1_over v_subjects_p1_there)), (h3, .inl (k1, nv_subjects_p1_items, .inl v_subjects_p1_items))]) (w1 := []) hP hD [] [0, 1, 2, 3] rfl rfl (by decide) (by decide) hk_1 hFc_1 hP1_1 hD1_1
  have hP_1 := hP_1.sub (ws' := [(h0, .inr (14, oX11 (.ref h4) (.ref h5) (.ref h1) (.ref h6) v_outHasNumbers (.ref h7) (.ref h8) (.ref h9) (.ref h10) (.ref h11) (.ref h12) (.ref h13) (.ref h14) v_faultPlace v_latestFinding v_latestSteps v_openSlot v_openSubject)), (h1, .inl (k0, 4, .inr (.inr (.inr (.inr v_subjects))))), (h2, .inr (10, oX7 (.ref h3) v_subjects_p1_count v_subjects_p1_over v_subjects_p1_there)), (h3, .inl (k1, nv_subjects_p1_items, .inl v_subjects_p1_items))]) [0, 1, 2, 3] rfl
  have hD_1 := hD_1.sub (ws' := [(h0, .inr (14, oX11 (.ref h4) (.ref h5) (.ref h1) (.ref h6) v_outHasNumbers (.ref h7) (.ref h8) (.ref h9) (.ref h10) (.ref h11) (.ref h12) (.ref h13) (.ref h14) v_faultPlace v_latestFinding v_latestSteps v_openSlot v_openSubject)), (h1, .inl (k0, 4, .inr (.inr (.inr (.inr v_subjects))))), (h2, .inr (10, oX7 (.ref h3) v_subjects_p1_count v_subjects_p1_over v_subjects_p1_there)), (h3, .inl (k1, nv_subjects_p1_items, .inl v_subjects_p1_items))]) [0, 1, 2, 3] (by decide) rfl
  clear hPc_1 hDc_1 hKc_1 hFc_1 hP1_1 hD1_1 hk_1 hz_1
  refine lv_if_ne (tgt := 10) hx hb dX11_put_4 (by decide) (fun c_2 => ?_) (fun c_2 => ?_)
  · refine lv_iload_n hx hb dX11_put_10 rfl (lv_at hl 2 rfl) ?_
    have k_19 : ∀ (v_openSlot_19 : Int32) (v_openSubject_19 : Int32) (v_subjects_p1_count_19 : Int32) (v_subjects_p1_over_19 : Bool) (v_subjects_p1_there_19 : Bool) (v_subjects_p1_items_19 : Nat → Int32), ∀ (H_b19 : Heap) (locs_b19 : List Loc) (ls_b19 : Array Slot), w_X11_put_19 Q v_openSlot_19 v_openSubject_19 v_subjects_p1_count_19 v_subjects_p1_over_19 v_subjects_p1_there_19 v_subjects_p1_items_19 → va_P (dC, dI) vwCl [(h0, .inr (14, oX11 (.ref h4) (.ref h5) (.ref h1) (.ref h6) v_outHasNumbers (.ref h7) (.ref h8) (.ref h9) (.ref h10) (.ref h11) (.ref h12) (.ref h13) (.ref h14) v_faultPlace v_latestFinding v_latestSteps v_openSlot_19 v_openSubject_19)), (h1, .inl (k0, 4, .inr (.inr (.inr (.inr v_subjects))))), (h2, .inr (10, oX7 (.ref h3) v_subjects_p1_count_19 v_subjects_p1_over_19 v_subjects_p1_there_19)), (h3, .inl (k1, nv_subjects_p1_items, .inl v_subjects_p1_items_19))] H_b19 → va_D A [(h0, .inr (14, oX11 (.ref h4) (.ref h5) (.ref h1) (.ref h6) v_outHasNumbers (.ref h7) (.ref h8) (.ref h9) (.ref h10) (.ref h11) (.ref h12) (.ref h13) (.ref h14) v_faultPlace v_latestFinding v_latestSteps v_openSlot_19 v_openSubject_19)), (h1, .inl (k0, 4, .inr (.inr (.inr (.inr v_subjects))))), (h2, .inr (10, oX7 (.ref h3) v_subjects_p1_count_19 v_subjects_p1_over_19 v_subjects_p1_there_19)), (h3, .inl (k1, nv_subjects_p1_items, .inl v_subjects_p1_items_19))] → va_S A s.heap H_b19 locs_b19 → lv_has ls_b19 7 [] → W p l e ({ frames := 2, cells := 0, slots := 0, locals := 41 } : Room) s m ([.ref h0, .int p1, .int p2, .long p3]).toArray below meth c H_b19 locs_b19 0 0 QQ (F0 m 19 ls_b19 []) := by
      intro v_openSlot_19 v_openSubject_19 v_subjects_p1_count_19 v_subjects_p1_over_19 v_subjects_p1_there_19 v_subjects_p1_items_19 H_b19 locs_b19 ls_b19 w_b19 hP_b19 hD_b19 hS_b19 hl_b19
      unfold w_X11_put_19 at w_b19
      refine lv_bipush (v := (-4)) hx hb dX11_put_19 (by decide) ?_
      rw [hQQ]
      exact W.iret (v := (-4)) hx hb hr (fun t9 ht9 hW9 => ⟨⟨(-4), (-4), rfl, rfl, ⟨v_openSlot_19, v_openSubject_19, v_subjects_p1_count_19, v_subjects_p1_over_19, v_subjects_p1_there_19, v_subjects_p1_items_19, w_b19, by rw [ht9]; exact hP_b19, hD_b19⟩⟩, hS_b19.F ht9⟩) hS_b19.2.2 dX11_put_21
    refine lv_if_lt (tgt := 19) hx hb dX11_put_11 (by decide) (fun c_3 => ?_) (fun c_3 => ?_)
    · exact k_19 v_openSlot v_openSubject v_subjects_p1_count v_subjects_p1_over v_subjects_p1_there v_subjects_p1_items _ _ _ ((w_1.1 c_2).1 c_3) hP_1 hD_1 hS_1 (lv_sub hl [] rfl)
    · refine lv_iload_n hx hb dX11_put_14 rfl (lv_at hl 2 rfl) ?_
      refine lv_iconst (v := 4) hx hb dX11_put_15 (by decide) ?_
      refine lv_icmp_le (tgt := 22) hx hb dX11_put_16 (by decide) (fun c_4 => ?_) (fun c_4 => ?_)
      · refine lv_aload_n hx hb dX11_put_22 rfl (lv_at hl 0 rfl) ?_
        refine va_get (D := (dC, dI)) (ci := 14) (v := .ref h1) (C := RX11) (T := TX11) (N := 18) hx hb ht inX11 hown hK hP_1 0 rfl rfl 2 (by decide) (ht _ tw_802) (fun _ h9 => h9) rfl dX11_put_23 ?_
        refine lv_iload_n hx hb dX11_put_26 rfl (lv_at hl 1 rfl) ?_
        refine va_aldq hx hb hK hP_1 1 0 rfl rfl (i := p1) (((w_1.1 c_2).2 c_3).1 c_4).1 dX11_put_27 ?_
        refine W.eq (g2 := F0 m 28 ls [.ref h2]) (by rw [((((w_1.1 c_2).2 c_3).1 c_4).2).1]; rfl) ?_
        refine lv_astore (lv' := [(5, .ref h2), (0, .ref h0), (1, .int p1), (2, .int p2), (3, .long p3)]) hx hb dX11_put_28 hl (by decide) rfl (fun ls_5 hl_5 => ?_)
        clear hl
        refine lv_aload hx hb dX11_put_30 (lv_at hl_5 0 rfl) ?_
        refine va_get (D := (dC, dI)) (ci := 10) (v := .int v_subjects_p1_count) (C := RX7) (T := TX7) (N := 4) hx hb ht inX7 hown hK hP_1 2 rfl rfl 1 (by decide) (ht _ tw_278) (fun _ h9 => h9) rfl dX11_put_32 ?_
        refine lv_iload_n hx hb dX11_put_35 rfl (lv_at hl_5 3 rfl) ?_
        refine lv_iadd hx hb dX11_put_36 ?_
        refine lv_topi (fun x_6 ex_6 => ?_)
        have ex_6 : x_6 = v_subjects_p1_count + p2 := ex_6
        refine lv_bipush (v := 100) hx hb dX11_put_37 (by decide) ?_
        have w_7 := (((((w_1.1 c_2).2 c_3).1 c_4).2).2) x_6 ex_6
        refine lv_icmp_le (tgt := 45) hx hb dX11_put_39 (by decide) (fun c_8 => ?_) (fun c_8 => ?_)
        · refine lv_iload_n hx hb dX11_put_45 rfl (lv_at hl_5 3 rfl) ?_
          refine lv_iconst (v := 1) hx hb dX11_put_46 (by decide) ?_
          refine lv_isub hx hb dX11_put_47 ?_
          refine lv_topi (fun x_9 ex_9 => ?_)
          have ex_9 : x_9 = p2 - (1 : Int32) := ex_9
          refine lv_istore (lv' := [(6, .int x_9), (5, .ref h2), (0, .ref h0), (1, .int p1), (2, .int p2), (3, .long p3)]) hx hb dX11_put_48 hl_5 (by decide) rfl (fun ls_10 hl_10 => ?_)
          clear hl_5
          have k_50 : ∀ (v_openSlot_50 : Int32) (v_openSubject_50 : Int32) (v_subjects_p1_there_50 : Bool), ∀ n_50 : Nat, ∀ (l6_50 : Int32) (v_subjects_p1_count_50 : Int32) (v_subjects_p1_over_50 : Bool) (v_subjects_p1_items_50 : Nat → Int32), ∀ (H_b50 : Heap) (locs_b50 : List Loc) (ls_b50 : Array Slot), w_X11_put_50 p1 p3 nv_subjects_p1_items Q v_openSlot_50 v_openSubject_50 v_subjects_p1_there_50 n_50 l6_50 v_subjects_p1_count_50 v_subjects_p1_over_50 v_subjects_p1_items_50 → va_P (dC, dI) vwCl [(h0, .inr (14, oX11 (.ref h4) (.ref h5) (.ref h1) (.ref h6) v_outHasNumbers (.ref h7) (.ref h8) (.ref h9) (.ref h10) (.ref h11) (.ref h12) (.ref h13) (.ref h14) v_faultPlace v_latestFinding v_latestSteps v_openSlot_50 v_openSubject_50)), (h1, .inl (k0, 4, .inr (.inr (.inr (.inr v_subjects))))), (h2, .inr (10, oX7 (.ref h3) v_subjects_p1_count_50 v_subjects_p1_over_50 v_subjects_p1_there_50)), (h3, .inl (k1, nv_subjects_p1_items, .inl v_subjects_p1_items_50))] H_b50 → va_D A [(h0, .inr (14, oX11 (.ref h4) (.ref h5) (.ref h1) (.ref h6) v_outHasNumbers (.ref h7) (.ref h8) (.ref h9) (.ref h10) (.ref h11) (.ref h12) (.ref h13) (.ref h14) v_faultPlace v_latestFinding v_latestSteps v_openSlot_50 v_openSubject_50)), (h1, .inl (k0, 4, .inr (.inr (.inr (.inr v_subjects))))), (h2, .inr (10, oX7 (.ref h3) v_subjects_p1_count_50 v_subjects_p1_over_50 v_subjects_p1_there_50)), (h3, .inl (k1, nv_subjects_p1_items, .inl v_subjects_p1_items_50))] → va_S A s.heap H_b50 locs_b50 → lv_has ls_b50 7 [(0, .ref h0), (1, .int p1), (3, .long p3), (5, .ref h2), (6, .int l6_50)] → W p l e ({ frames := 2, cells := 0, slots := 0, locals := 41 } : Room) s m ([.ref h0, .int p1, .int p2, .long p3]).toArray below meth c H_b50 locs_b50 0 0 QQ (F0 m 50 ls_b50 []) := by
            intro v_openSlot_50 v_openSubject_50 v_subjects_p1_there_50
            intro n_50
            induction n_50 with
            | zero =>
              intro l6_50 v_subjects_p1_count_50 v_subjects_p1_over_50 v_subjects_p1_items_50 H_b50 locs_b50 ls_b50 w_b50 hP_b50 hD_b50 hS_b50 hl_b50
              exact False.elim (by unfold w_X11_put_50 at w_b50; exact w_b50)
            | succ n_50 ih_50 =>
              intro l6_50 v_subjects_p1_count_50 v_subjects_p1_over_50 v_subjects_p1_items_50 H_b50 locs_b50 ls_b50 w_b50 hP_b50 hD_b50 hS_b50 hl_b50
              unfold w_X11_put_50 at w_b50
              unfold w_X11_put_50B at w_b50
              refine lv_iload hx hb dX11_put_50 (lv_at hl_b50 4 rfl) ?_
              refine lv_if_lt (tgt := 77) hx hb dX11_put_52 (by decide) (fun c_11 => ?_) (fun c_11 => ?_)
              · refine lv_aload hx hb dX11_put_77 (lv_at hl_b50 3 rfl) ?_
                refine lv_iconst (v := 1) hx hb dX11_put_79 (by decide) ?_
                refine va_put (D := (dC, dI)) (ci := 10) (v := .int 1) (ty := .boolean) (C := RX7) (T := TX7) (N := 4) hx hb ht inX7 tyX7 tyX7_ok nmX7 hown hK hP_b50 hD_b50 hS_b50 2 rfl rfl 3 (by decide) (ht _ tw_286) (fun _ h9 => h9) rfl (by decide +kernel) rfl rfl (Nat.le_of_ble_eq_true rfl) dX11_put_80 (fun H_12 locs_12 hP_12 hD_12 hS_12 => ?_)
                have hP_12 : va_P (dC, dI) vwCl [(h0, .inr (14, oX11 (.ref h4) (.ref h5) (.ref h1) (.ref h6) v_outHasNumbers (.ref h7) (.ref h8) (.ref h9) (.ref h10) (.ref h11) (.ref h12) (.ref h13) (.ref h14) v_faultPlace v_latestFinding v_latestSteps v_openSlot_50 v_openSubject_50)), (h1, .inl (k0, 4, .inr (.inr (.inr (.inr v_subjects))))), (h2, .inr (10, oX7 (.ref h3) v_subjects_p1_count_50 v_subjects_p1_over_50 true)), (h3, .inl (k1, nv_subjects_p1_items, .inl v_subjects_p1_items_50))] H_12 := hP_12
                have hD_12 : va_D A [(h0, .inr (14, oX11 (.ref h4) (.ref h5) (.ref h1) (.ref h6) v_outHasNumbers (.ref h7) (.ref h8) (.ref h9) (.ref h10) (.ref h11) (.ref h12) (.ref h13) (.ref h14) v_faultPlace v_latestFinding v_latestSteps v_openSlot_50 v_openSubject_50)), (h1, .inl (k0, 4, .inr (.inr (.inr (.inr v_subjects))))), (h2, .inr (10, oX7 (.ref h3) v_subjects_p1_count_50 v_subjects_p1_over_50 true)), (h3, .inl (k1, nv_subjects_p1_items, .inl v_subjects_p1_items_50))] := hD_12
                refine lv_aload_n hx hb dX11_put_83 rfl (lv_at hl_b50 0 rfl) ?_
                refine lv_iload_n hx hb dX11_put_84 rfl (lv_at hl_b50 1 rfl) ?_
                have hPc_13 := hP_12.sub (ws' := [(h0, .inr (14, oX11 (.ref h4) (.ref h5) (.ref h1) (.ref h6) v_outHasNumbers (.ref h7) (.ref h8) (.ref h9) (.ref h10) (.ref h11) (.ref h12) (.ref h13) (.ref h14) v_faultPlace v_latestFinding v_latestSteps v_openSlot_50 v_openSubject_50))]) [0] rfl
                have hDc_13 := hD_12.sub (ws' := [(h0, .inr (14, oX11 (.ref h4) (.ref h5) (.ref h1) (.ref h6) v_outHasNumbers (.ref h7) (.ref h8) (.ref h9) (.ref h10) (.ref h11) (.ref h12) (.ref h13) (.ref h14) v_faultPlace v_latestFinding v_latestSteps v_openSlot_50 v_openSubject_50))]) [0] (by decide) rfl
                have hKc_13 := hK.sub (tys' := []) [] rfl
                have hFc_13 := va_free (wc := [(h0, .inr (14, oX11 (.ref h4) (.ref h5) (.ref h1) (.ref h6) v_outHasNumbers (.ref h7) (.ref h8) (.ref h9) (.ref h10) (.ref h11) (.ref h12) (.ref h13) (.ref h14) v_faultPlace v_latestFinding v_latestSteps v_openSlot_50 v_openSubject_50))]) hD_12 hS_12 hA [0] rfl
                refine va_callv (va_runV (As := [.int p1]) (rest := []) ⟨hx, hb, hml, hown, ht⟩ (mt_X11_endSearchOver l dC dI h0 h4 h5 h1 h6 h7 h8 h9 h10 h11 h12 h13 h14 p1 v_outHasNumbers v_faultPlace v_latestFinding v_latestSteps v_openSlot_50 v_openSubject_50 _ (w_b50.1 c_11) H_12.size) (cwV 1 ht (goodV tw_1414 tw_1416 tw_66 tw_236 gw_X11_endSearchOver) rfl rfl rfl (by decide +kernel) ⟨Nat.le_of_ble_eq_true rfl, Nat.le_of_ble_eq_true rfl⟩) ⟨fun a U g mk q => by obtain ⟨q0, q1, qP, qK, qD⟩ := q; exact ⟨q0, q1, qP, va_K.moved (u := U) (U := U.calling g mk a) (Vm.Alike.refl U.vm) qK, qD⟩, va_recv hKc_13 hPc_13 (ci := 14) (q0 := 0) rfl rfl, fun U hU hW => ⟨rfl, by rw [hU], by rw [hU]; exact hPc_13, va_K.moved hW.alike hKc_13, hDc_13.weaken (fun _ _ _ _ => trivial)⟩⟩ rfl rfl hl_b50.1 rfl (lv_room (Nat.le_of_ble_eq_true rfl)) dX11_put_85 ⟨Nat.le_of_ble_eq_true rfl, Nat.le_of_ble_eq_true rfl⟩) hS_12 (fun q _ h => hFc_13 q h) hFc_13 (fun u_13 t_13 H_13 locs_13 ht_13 hvm_13 hw_13 hB_13 hz_13 hk_13 hS_13 => ?_)
                subst hw_13
                obtain ⟨r_13_0, r_13_1, w_13, hP1_13, hD1_13⟩ := hB_13
                rw [ht_13] at hP1_13
                obtain ⟨hP_13, hD_13⟩ := va_join (wr := [(h1, .inl (k0, 4, .inr (.inr (.inr (.inr v_subjects))))), (h2, .inr (10, oX7 (.ref h3) v_subjects_p1_count_50 v_subjects_p1_over_50 true)), (h3, .inl (k1, nv_subjects_p1_items, .inl v_subjects_p1_items_50))]) (w1 := [(h0, .inr (14, oX11 (.ref h4) (.ref h5) (.ref h1) (.ref h6) v_outHasNumbers (.ref h7) (.ref h8) (.ref h9) (.ref h10) (.ref h11) (.ref h12) (.ref h13) (.ref h14) v_faultPlace v_latestFinding v_latestSteps r_13_0 r_13_1))]) hP_12 hD_12 [0] [1, 2, 3] rfl rfl (by decide) (by decide) hk_13 hFc_13 hP1_13 hD1_13
                have hP_13 := hP_13.sub (ws' := [(h0, .inr (14, oX11 (.ref h4) (.ref h5) (.ref h1) (.ref h6) v_outHasNumbers (.ref h7) (.ref h8) (.ref h9) (.ref h10) (.ref h11) (.ref h12) (.ref h13) (.ref h14) v_faultPlace v_latestFinding v_latestSteps r_13_0 r_13_1)), (h1, .inl (k0, 4, .inr (.inr (.inr (.inr v_subjects))))), (h2, .inr (10, oX7 (.ref h3) v_subjects_p1_count_50 v_subjects_p1_over_50 true)), (h3, .inl (k1, nv_subjects_p1_items, .inl v_subjects_p1_items_50))]) [3, 0, 1, 2] rfl
                have hD_13 := hD_13.sub (ws' := [(h0, .inr (14, oX11 (.ref h4) (.ref h5) (.ref h1) (.ref h6) v_outHasNumbers (.ref h7) (.ref h8) (.ref h9) (.ref h10) (.ref h11) (.ref h12) (.ref h13) (.ref h14) v_faultPlace v_latestFinding v_latestSteps r_13_0 r_13_1)), (h1, .inl (k0, 4, .inr (.inr (.inr (.inr v_subjects))))), (h2, .inr (10, oX7 (.ref h3) v_subjects_p1_count_50 v_subjects_p1_over_50 true)), (h3, .inl (k1, nv_subjects_p1_items, .inl v_subjects_p1_items_50))]) [3, 0, 1, 2] (by decide) rfl
                clear hPc_13 hDc_13 hKc_13 hFc_13 hP1_13 hD1_13 hk_13 hz_13
                refine lv_aload hx hb dX11_put_88 (lv_at hl_b50 3 rfl) ?_
                refine va_get (D := (dC, dI)) (ci := 10) (v := .int v_subjects_p1_count_50) (C := RX7) (T := TX7) (N := 4) hx hb ht inX7 hown hK hP_13 2 rfl rfl 1 (by decide) (ht _ tw_278) (fun _ h9 => h9) rfl dX11_put_90 ?_
                rw [hQQ]
                exact W.iret (v := v_subjects_p1_count_50) hx hb hr (fun t9 ht9 hW9 => ⟨⟨v_subjects_p1_count_50, v_subjects_p1_count_50, rfl, rfl, ⟨r_13_0, r_13_1, v_subjects_p1_count_50, v_subjects_p1_over_50, true, v_subjects_p1_items_50, w_13, by rw [ht9]; exact hP_13, hD_13⟩⟩, hS_13.F ht9⟩) hS_13.2.2 dX11_put_93
              · refine lv_aload hx hb dX11_put_55 (lv_at hl_b50 3 rfl) ?_
                refine lv_lload_n hx hb dX11_put_57 rfl (lv_at hl_b50 2 rfl) ?_
                refine lv_bipush (v := 16) hx hb dX11_put_58 (by decide) ?_
                refine lv_iload hx hb dX11_put_60 (lv_at hl_b50 4 rfl) ?_
                refine lv_imul hx hb dX11_put_62 ?_
                refine lv_topi (fun x_14 ex_14 => ?_)
                have ex_14 : x_14 = (16 : Int32) * l6_50 := ex_14
                refine lv_lushr hx hb dX11_put_63 rfl ?_
                refine lv_topl (fun y_15 ey_15 => ?_)
                have ey_15 : y_15 = (p3.toUInt64 >>> (x_14.toInt64.toUInt64 &&& Int64.toUInt64 63)).toInt64 := ey_15
                refine lv_l2i hx hb dX11_put_64 rfl ?_
                refine lv_topi (fun x_16 ex_16 => ?_)
                have ex_16 : x_16 = y_15.toInt32 := ex_16
                refine lv_ldc hx hb hown (ht _ tw_1287) dX11_put_65 ?_
                refine lv_iand hx hb dX11_put_67 ?_
                refine lv_topi (fun x_17 ex_17 => ?_)
                have ex_17 : x_17 = x_16 &&& (65535 : Int32) := ex_17
                have hPc_18 := hP_b50.sub (ws' := [(h2, .inr (10, oX7 (.ref h3) v_subjects_p1_count_50 v_subjects_p1_over_50 v_subjects_p1_there_50)), (h3, .inl (k1, nv_subjects_p1_items, .inl v_subjects_p1_items_50))]) [2, 3] rfl
                have hDc_18 := hD_b50.sub (ws' := [(h2, .inr (10, oX7 (.ref h3) v_subjects_p1_count_50 v_subjects_p1_over_50 v_subjects_p1_there_50)), (h3, .inl (k1, nv_subjects_p1_items, .inl v_subjects_p1_items_50))]) [2, 3] (by decide) rfl
                have hKc_18 := hK.sub (tys' := [(k1, .int)]) [1] rfl
                have hFc_18 := va_free (wc := [(h2, .inr (10, oX7 (.ref h3) v_subjects_p1_count_50 v_subjects_p1_over_50 v_subjects_p1_there_50)), (h3, .inl (k1, nv_subjects_p1_items, .inl v_subjects_p1_items_50))]) hD_b50 hS_b50 hA [2, 3] rfl
                have w_19 := w_b50.2 c_11 x_14 ex_14 y_15 ey_15 x_16 ex_16 x_17 ex_17
                refine va_callv (va_runV (As := [.int x_17]) (rest := []) ⟨hx, hb, hml, hown, ht⟩ (mt_X7_add l dC dI h2 h3 k1 x_17 v_subjects_p1_count_50 v_subjects_p1_over_50 v_subjects_p1_there_50 v_subjects_p1_items_50 nv_subjects_p1_items _ w_19 H_b50.size) (cwV 1 ht (goodV tw_865 tw_866 tw_867 tw_237 gw_X7_add) rfl rfl rfl (by decide +kernel) ⟨Nat.le_of_ble_eq_true rfl, Nat.le_of_ble_eq_true rfl⟩) ⟨fun a U g mk q => by obtain ⟨q0, q1, qP, qK, qD⟩ := q; exact ⟨q0, q1, qP, va_K.moved (u := U) (U := U.calling g mk a) (Vm.Alike.refl U.vm) qK, qD⟩, va_recv hKc_18 hPc_18 (ci := 10) (q0 := 0) rfl rfl, fun U hU hW => ⟨rfl, by rw [hU], by rw [hU]; exact hPc_18, va_K.moved hW.alike hKc_18, hDc_18.weaken (fun _ _ _ _ => trivial)⟩⟩ rfl rfl hl_b50.1 rfl (lv_room (Nat.le_of_ble_eq_true rfl)) dX11_put_68 ⟨Nat.le_of_ble_eq_true rfl, Nat.le_of_ble_eq_true rfl⟩) hS_b50 (fun q _ h => hFc_18 q h) hFc_18 (fun u_18 t_18 H_18 locs_18 ht_18 hvm_18 hw_18 hB_18 hz_18 hk_18 hS_18 => ?_)
                subst hw_18
                obtain ⟨r_18_0, r_18_1, r_18_2, w_18, hP1_18, hD1_18⟩ := hB_18
                rw [ht_18] at hP1_18
                obtain ⟨hP_18, hD_18⟩ := va_join (wr := [(h0, .inr (14, oX11 (.ref h4) (.ref h5) (.ref h1) (.ref h6) v_outHasNumbers (.ref h7) (.ref h8) (.ref h9) (.ref h10) (.ref h11) (.ref h12) (.ref h13) (.ref h14) v_faultPlace v_latestFinding v_latestSteps v_openSlot_50 v_openSubject_50)), (h1, .inl (k0, 4, .inr (.inr (.inr (.inr v_subjects)))))]) (w1 := [(h2, .inr (10, oX7 (.ref h3) r_18_0 r_18_1 v_subjects_p1_there_50)), (h3, .inl (k1, nv_subjects_p1_items, .inl r_18_2))]) hP_b50 hD_b50 [2, 3] [0, 1] rfl rfl (by decide) (by decide) hk_18 hFc_18 hP1_18 hD1_18
                have hP_18 := hP_18.sub (ws' := [(h0, .inr (14, oX11 (.ref h4) (.ref h5) (.ref h1) (.ref h6) v_outHasNumbers (.ref h7) (.ref h8) (.ref h9) (.ref h10) (.ref h11) (.ref h12) (.ref h13) (.ref h14) v_faultPlace v_latestFinding v_latestSteps v_openSlot_50 v_openSubject_50)), (h1, .inl (k0, 4, .inr (.inr (.inr (.inr v_subjects))))), (h2, .inr (10, oX7 (.ref h3) r_18_0 r_18_1 v_subjects_p1_there_50)), (h3, .inl (k1, nv_subjects_p1_items, .inl r_18_2))]) [0, 1, 2, 3] rfl
                have hD_18 := hD_18.sub (ws' := [(h0, .inr (14, oX11 (.ref h4) (.ref h5) (.ref h1) (.ref h6) v_outHasNumbers (.ref h7) (.ref h8) (.ref h9) (.ref h10) (.ref h11) (.ref h12) (.ref h13) (.ref h14) v_faultPlace v_latestFinding v_latestSteps v_openSlot_50 v_openSubject_50)), (h1, .inl (k0, 4, .inr (.inr (.inr (.inr v_subjects))))), (h2, .inr (10, oX7 (.ref h3) r_18_0 r_18_1 v_subjects_p1_there_50)), (h3, .inl (k1, nv_subjects_p1_items, .inl r_18_2))]) [0, 1, 2, 3] (by decide) rfl
                clear hPc_18 hDc_18 hKc_18 hFc_18 hP1_18 hD1_18 hk_18 hz_18
                obtain ⟨x_20, ex_20⟩ : ∃ y : Int32, y = l6_50 + (-1) := ⟨_, rfl⟩
                refine lv_iinc (v := x_20) (lv' := [(6, .int x_20), (0, .ref h0), (1, .int p1), (3, .long p3), (5, .ref h2)]) hx hb dX11_put_71 hl_b50 (k := 4) rfl ex_20.symm (by decide) rfl (fun ls_20 hl_20 => ?_)
                refine lv_goto (tgt := 50) hx hb dX11_put_74 (by decide) ?_
                exact ih_50 x_20 r_18_0 r_18_1 r_18_2 _ _ _ (w_18 x_20 ex_20) hP_18 hD_18 hS_18 (lv_sub hl_20 [1, 2, 3, 4, 0] rfl)
          obtain ⟨n_21, w_21⟩ := w_7.1 c_8 x_9 ex_9
          exact k_50 v_openSlot v_openSubject v_subjects_p1_there n_21 x_9 v_subjects_p1_count v_subjects_p1_over v_subjects_p1_items _ _ _ w_21 hP_1 hD_1 hS_1 (lv_sub hl_10 [2, 3, 5, 1, 0] rfl)
        · refine lv_bipush (v := (-9)) hx hb dX11_put_42 (by decide) ?_
          rw [hQQ]
          exact W.iret (v := (-9)) hx hb hr (fun t9 ht9 hW9 => ⟨⟨(-9), (-9), rfl, rfl, ⟨v_openSlot, v_openSubject, v_subjects_p1_count, v_subjects_p1_over, v_subjects_p1_there, v_subjects_p1_items, w_7.2 c_8, by rw [ht9]; exact hP_1, hD_1⟩⟩, hS_1.F ht9⟩) hS_1.2.2 dX11_put_44
      · exact k_19 v_openSlot v_openSubject v_subjects_p1_count v_subjects_p1_over v_subjects_p1_there v_subjects_p1_items _ _ _ (((w_1.1 c_2).2 c_3).2 c_4) hP_1 hD_1 hS_1 (lv_sub hl [] rfl)
  · refine lv_bipush (v := (-2)) hx hb dX11_put_7 (by decide) ?_
    rw [hQQ]
    exact W.iret (v := (-2)) hx hb hr (fun t9 ht9 hW9 => ⟨⟨(-2), (-2), rfl, rfl, ⟨v_openSlot, v_openSubject, v_subjects_p1_count, v_subjects_p1_over, v_subjects_p1_there, v_subjects_p1_items, w_1.2 c_2, by rw [ht9]; exact hP_1, hD_1⟩⟩, hS_1.F ht9⟩) hS_1.2.2 dX11_put_9
def w_X7_addFrom_v1_38 (Q : Int32 → Bool → (Nat → Int32) → Prop) (v_count_38 : Int32) (v_over_38 : Bool) (v_items_38 : Nat → Int32) : Prop :=
  Q  v_count_38 v_over_38 v_items_38
def w_X7_addFrom_v1_7B (p3 : Int32) (nv_items : Nat) (Q : Int32 → Bool → (Nat → Int32) → Prop) (K7 : Int32 → Int32 → Bool → (Nat → Int32) → Prop) (l4_7 : Int32) (v_count_7 : Int32) (v_over_7 : Bool) (v_items_7 : Nat → Int32) : Prop :=
  ((p3 ≤ l4_7) → w_X7_addFrom_v1_38 Q v_count_7 v_over_7 v_items_7) ∧ ((¬ p3 ≤ l4_7) → ((v_count_7 ≤ l4_7) → w_X7_addFrom_v1_38 Q v_count_7 v_over_7 v_items_7) ∧ ((¬ v_count_7 ≤ l4_7) → w_X7_at l4_7 v_count_7 v_items_7 nv_items (fun r_5 => w_X7_add r_5 v_count_7 v_over_7 v_items_7 nv_items (fun r_6_0 r_6_1 r_6_2 => ∀ x_7 : Int32, x_7 = l4_7 + 1 → K7 x_7 r_6_0 r_6_1 r_6_2))))
def w_X7_addFrom_v1_7 (p3 : Int32) (nv_items : Nat) (Q : Int32 → Bool → (Nat → Int32) → Prop) : Nat → Int32 → Int32 → Bool → (Nat → Int32) → Prop
  | 0, _, _, _, _ => False
  | n9 + 1, l4_7, v_count_7, v_over_7, v_items_7 => w_X7_addFrom_v1_7B p3 nv_items Q (w_X7_addFrom_v1_7 p3 nv_items Q n9) l4_7 v_count_7 v_over_7 v_items_7
def w_X7_addFrom_v1 (p2 : Int32) (p3 : Int32) (v_count : Int32) (v_over : Bool) (v_items : Nat → Int32) (nv_items : Nat) (Q : Int32 → Bool → (Nat → Int32) → Prop) : Prop :=
  ∀ x_1 : Int32, x_1 = (if p2 < (0 : Int32) then (0 : Int32) else p2) → ∃ k9 : Nat, w_X7_addFrom_v1_7 p3 nv_items Q k9 x_1 v_count v_over v_items
set_option maxHeartbeats 4000000 in
set_option maxRecDepth 100000 in
theorem mt_X7_addFrom_v1 (l : Launch) (dC : Nat → ClassId) (dI : Nat → Nat → Nat) (h0 h1 : Nat) (k0 : ClassId) (p2 : Int32) (p3 : Int32) (v_count : Int32) (v_over : Bool) (v_there : Bool) (v_items : Nat → Int32) (nv_items : Nat) (Q : Int32 → Bool → (Nat → Int32) → Prop) (w : w_X7_addFrom_v1 p2 p3 v_count v_over v_items nv_items Q) (sz : Nat) : Met l yX7_addFrom (WS yX7_addFrom cX7_addFrom 5 none) ({ frames := 1, cells := 0, slots := 0, locals := 21 } : Room) (va_Pc [.ref h0, .ref h0, .int p2, .int p3] (fun U => U.heap.size = sz ∧ va_P (dC, dI) vwCl [(h0, .inr (10, oX7 (.ref h1) v_count v_over v_there)), (h1, .inl (k0, nv_items, .inl v_items))] U.heap ∧ va_K (dC, dI) vwCl [(k0, .int)] U ∧ va_D (fun _ => True) [(h0, .inr (10, oX7 (.ref h1) v_count v_over v_there)), (h1, .inl (k0, nv_items, .inl v_items))])) (va_Qv (fun (u : Nat) => u = 0) (fun (_ : Nat) (t : State) => ∃ (ov_count : Int32), ∃ (ov_over : Bool), ∃ (ov_items : Nat → Int32), (Q ov_count ov_over ov_items) ∧ va_P (dC, dI) vwCl [(h0, .inr (10, oX7 (.ref h1) ov_count ov_over v_there)), (h1, .inl (k0, nv_items, .inl ov_items))] t.heap ∧ va_D (va_A [(h0, .inr (10, oX7 (.ref h1) v_count v_over v_there)), (h1, .inl (k0, nv_items, .inl v_items))] sz) [(h0, .inr (10, oX7 (.ref h1) ov_count ov_over v_there)), (h1, .inl (k0, nv_items, .inl ov_items))]) (va_A [(h0, .inr (10, oX7 (.ref h1) v_count v_over v_there)), (h1, .inl (k0, nv_items, .inl v_items))] sz)) 0 0 (va_A [(h0, .inr (10, oX7 (.ref h1) v_count v_over v_there)), (h1, .inl (k0, nv_items, .inl v_items))] sz) := by
  refine Met.ofW (cc := cX7_addFrom) (maxL := 5) (ret := none) (by decide) rfl ?_
  intro p e s m args below meth c s₁ B hml hv
  obtain ⟨rfl, hsz, hP, hK, hD0⟩ := hv
  have hx := B.exec
  have hb := B.bytes
  have hr := B.returns
  have hts := atoms_spec (ws := WS yX7_addFrom cX7_addFrom 5 none) B.pre
  have ht : ∀ w ∈ TW, w.before _ s = true := fun w h => hts w (List.mem_cons_of_mem _ h)
  have hown : s.vm.findClass "PatternWorkshop$Row" = some m.cls := findClass_of_methodNamed B.named
  have hlocks := B.notSynchronized
  subst hsz
  have hD := hD0.self (sz := s.heap.size)
  generalize hAe : va_A [(h0, .inr (10, oX7 (.ref h1) v_count v_over v_there)), (h1, .inl (k0, nv_items, .inl v_items))] s.heap.size = A at hD ⊢
  have hA : ∀ q : Nat, s.heap.size ≤ q → A q := fun q h => by rw [← hAe]; exact Or.inr h
  have hS : va_S A s.heap s.heap [] := va_S.rf
  have hP : va_P (dC, dI) vwCl [(h0, .inr (10, oX7 (.ref h1) v_count v_over v_there)), (h1, .inl (k0, nv_items, .inl v_items))] s.heap := hP
  have hl := lv_entry ([.ref h0, .ref h0, .int p2, .int p3]) (n := 5) (Nat.le_of_ble_eq_true rfl)
  rw [lg_entry_eq]
  generalize (lg_sl ([.ref h0, .ref h0, .int p2, .int p3]) ++ List.replicate (5 - (lg_sl ([.ref h0, .ref h0, .int p2, .int p3])).length) Slot.unset).toArray = ls at hl ⊢
  have hl : lv_has ls 5 [(0, .ref h0), (1, .ref h0), (2, .int p2), (3, .int p3)] := hl
  clear hD0
  obtain ⟨QQ, hQQ⟩ : ∃ QQ, QQ = MQ below (va_Qv (fun (u : Nat) => u = 0) (fun (_ : Nat) (t : State) => ∃ (ov_count : Int32), ∃ (ov_over : Bool), ∃ (ov_items : Nat → Int32), (Q ov_count ov_over ov_items) ∧ va_P (dC, dI) vwCl [(h0, .inr (10, oX7 (.ref h1) ov_count ov_over v_there)), (h1, .inl (k0, nv_items, .inl ov_items))] t.heap ∧ va_D A [(h0, .inr (10, oX7 (.ref h1) ov_count ov_over v_there)), (h1, .inl (k0, nv_items, .inl ov_items))]) A) ([.ref h0, .ref h0, .int p2, .int p3]).toArray s 0 0 A := ⟨_, rfl⟩
  show W p l e ({ frames := 1, cells := 0, slots := 0, locals := 21 } : Room) s m ([.ref h0, .ref h0, .int p2, .int p3]).toArray below meth c s.heap [] 0 0 (MQ below (va_Qv (fun (u : Nat) => u = 0) (fun (_ : Nat) (t : State) => ∃ (ov_count : Int32), ∃ (ov_over : Bool), ∃ (ov_items : Nat → Int32), (Q ov_count ov_over ov_items) ∧ va_P (dC, dI) vwCl [(h0, .inr (10, oX7 (.ref h1) ov_count ov_over v_there)), (h1, .inl (k0, nv_items, .inl ov_items))] t.heap ∧ va_D A [(h0, .inr (10, oX7 (.ref h1) ov_count ov_over v_there)), (h1, .inl (k0, nv_items, .inl ov_items))]) A) ([.ref h0, .ref h0, .int p2, .int p3]).toArray s 0 0 A) (F0 m 0 ls [])
  rw [← hQQ]
  unfold w_X7_addFrom_v1 at w
  refine lv_iload_n hx hb dX7_addFrom_0 rfl (lv_at hl 2 rfl) ?_
  refine lv_iconst (v := 0) hx hb dX7_addFrom_1 (by decide) ?_
  refine va_mmax hx hb (by rw [hml]; exact hl.1.symm) hown (ht _ tw_273) (ht _ tw_274) (ht _ tw_238) (ht _ tw_275) (Nat.le_of_ble_eq_true rfl) (Nat.le_of_ble_eq_true rfl) (Nat.le_of_ble_eq_true rfl) (Nat.le_of_ble_eq_true rfl) dX7_addFrom_2 ?_
  refine lv_topi (fun x_1 ex_1 => ?_)
  have ex_1 : x_1 = (if p2 < (0 : Int32) then (0 : Int32) else p2) := ex_1
  refine lv_istore (lv' := [(4, .int x_1), (0, .ref h0), (1, .ref h0), (2, .int p2), (3, .int p3)]) hx hb dX7_addFrom_5 hl (by decide) rfl (fun ls_2 hl_2 => ?_)
  clear hl
  have k_7 : ∀ n_7 : Nat, ∀ (l4_7 : Int32) (v_count_7 : Int32) (v_over_7 : Bool) (v_items_7 : Nat → Int32), ∀ (H_b7 : Heap) (locs_b7 : List Loc) (ls_b7 : Array Slot), w_X7_addFrom_v1_7 p3 nv_items Q n_7 l4_7 v_count_7 v_over_7 v_items_7 → va_P (dC, dI) vwCl [(h0, .inr (10, oX7 (.ref h1) v_count_7 v_over_7 v_there)), (h1, .inl (k0, nv_items, .inl v_items_7))] H_b7 → va_D A [(h0, .inr (10, oX7 (.ref h1) v_count_7 v_over_7 v_there)), (h1, .inl (k0, nv_items, .inl v_items_7))] → va_S A s.heap H_b7 locs_b7 → lv_has ls_b7 5 [(0, .ref h0), (1, .ref h0), (3, .int p3), (4, .int l4_7)] → W p l e ({ frames := 1, cells := 0, slots := 0, locals := 21 } : Room) s m ([.ref h0, .ref h0, .int p2, .int p3]).toArray below meth c H_b7 locs_b7 0 0 QQ (F0 m 7 ls_b7 []) := by
    intro n_7
    induction n_7 with
    | zero =>
      intro l4_7 v_count_7 v_over_7 v_items_7 H_b7 locs_b7 ls_b7 w_b7 hP_b7 hD_b7 hS_b7 hl_b7
      exact False.elim (by unfold w_X7_addFrom_v1_7 at w_b7; exact w_b7)
    | succ n_7 ih_7 =>
      intro l4_7 v_count_7 v_over_7 v_items_7 H_b7 locs_b7 ls_b7 w_b7 hP_b7 hD_b7 hS_b7 hl_b7
      unfold w_X7_addFrom_v1_7 at w_b7
      unfold w_X7_addFrom_v1_7B at w_b7
      refine lv_iload hx hb dX7_addFrom_7 (lv_at hl_b7 3 rfl) ?_
      refine lv_iload_n hx hb dX7_addFrom_9 rfl (lv_at hl_b7 2 rfl) ?_
      have k_38 : ∀ (v_count_38 : Int32) (v_over_38 : Bool) (v_items_38 : Nat → Int32), ∀ (H_b38 : Heap) (locs_b38 : List Loc) (ls_b38 : Array Slot), w_X7_addFrom_v1_38 Q v_count_38 v_over_38 v_items_38 → va_P (dC, dI) vwCl [(h0, .inr (10, oX7 (.ref h1) v_count_38 v_over_38 v_there)), (h1, .inl (k0, nv_items, .inl v_items_38))] H_b38 → va_D A [(h0, .inr (10, oX7 (.ref h1) v_count_38 v_over_38 v_there)), (h1, .inl (k0, nv_items, .inl v_items_38))] → va_S A s.heap H_b38 locs_b38 → lv_has ls_b38 5 [] → W p l e ({ frames := 1, cells := 0, slots := 0, locals := 21 } : Room) s m ([.ref h0, .ref h0, .int p2, .int p3]).toArray below meth c H_b38 locs_b38 0 0 QQ (F0 m 38 ls_b38 []) := by
        intro v_count_38 v_over_38 v_items_38 H_b38 locs_b38 ls_b38 w_b38 hP_b38 hD_b38 hS_b38 hl_b38
        unfold w_X7_addFrom_v1_38 at w_b38
        rw [hQQ]
        exact W.vret hx hb hr (fun t9 ht9 hW9 => ⟨⟨0, rfl, rfl, ⟨v_count_38, v_over_38, v_items_38, w_b38, by rw [ht9]; exact hP_b38, hD_b38⟩⟩, hS_b38.F ht9⟩) hS_b38.2.2 dX7_addFrom_38
      refine lv_icmp_ge (tgt := 38) hx hb dX7_addFrom_10 (by decide) (fun c_3 => ?_) (fun c_3 => ?_)
      · exact k_38 v_count_7 v_over_7 v_items_7 _ _ _ (w_b7.1 c_3) hP_b7 hD_b7 hS_b7 (lv_sub hl_b7 [] rfl)
      · refine lv_iload hx hb dX7_addFrom_13 (lv_at hl_b7 3 rfl) ?_
        refine lv_aload_n hx hb dX7_addFrom_15 rfl (lv_at hl_b7 1 rfl) ?_
        refine va_get (D := (dC, dI)) (ci := 10) (v := .int v_count_7) (C := RX7) (T := TX7) (N := 4) hx hb ht inX7 hown hK hP_b7 0 rfl rfl 1 (by decide) (ht _ tw_277) (fun _ h9 => h9) rfl dX7_addFrom_16 ?_
        refine lv_icmp_ge (tgt := 38) hx hb dX7_addFrom_19 (by decide) (fun c_4 => ?_) (fun c_4 => ?_)
        · exact k_38 v_count_7 v_over_7 v_items_7 _ _ _ ((w_b7.2 c_3).1 c_4) hP_b7 hD_b7 hS_b7 (lv_sub hl_b7 [] rfl)
        · refine lv_aload_n hx hb dX7_addFrom_22 rfl (lv_at hl_b7 0 rfl) ?_
          refine lv_aload_n hx hb dX7_addFrom_23 rfl (lv_at hl_b7 1 rfl) ?_
          refine lv_iload hx hb dX7_addFrom_24 (lv_at hl_b7 3 rfl) ?_
          have hPc_5 := hP_b7.sub (ws' := [(h0, .inr (10, oX7 (.ref h1) v_count_7 v_over_7 v_there)), (h1, .inl (k0, nv_items, .inl v_items_7))]) [0, 1] rfl
          have hDc_5 := hD_b7.sub (ws' := [(h0, .inr (10, oX7 (.ref h1) v_count_7 v_over_7 v_there)), (h1, .inl (k0, nv_items, .inl v_items_7))]) [0, 1] (by decide) rfl
          have hKc_5 := hK.sub (tys' := [(k0, .int)]) [0] rfl
          have hFc_5 := va_free (wc := [(h0, .inr (10, oX7 (.ref h1) v_count_7 v_over_7 v_there)), (h1, .inl (k0, nv_items, .inl v_items_7))]) hD_b7 hS_b7 hA [0, 1] rfl
          refine va_calli (va_runV (As := [.int l4_7]) (rest := [.ref h0]) ⟨hx, hb, hml, hown, ht⟩ (mt_X7_at l dC dI h0 h1 k0 l4_7 v_count_7 v_over_7 v_there v_items_7 nv_items _ ((w_b7.2 c_3).2 c_4) H_b7.size) (cwV 1 ht (goodV tw_1281 tw_908 tw_909 tw_237 gw_X7_at) rfl rfl rfl (by decide +kernel) ⟨Nat.le_of_ble_eq_true rfl, Nat.le_of_ble_eq_true rfl⟩) ⟨fun a U g mk q => by obtain ⟨q0, q1, qP, qK, qD⟩ := q; exact ⟨q0, q1, qP, va_K.moved (u := U) (U := U.calling g mk a) (Vm.Alike.refl U.vm) qK, qD⟩, va_recv hKc_5 hPc_5 (ci := 10) (q0 := 0) rfl rfl, fun U hU hW => ⟨rfl, by rw [hU], by rw [hU]; exact hPc_5, va_K.moved hW.alike hKc_5, hDc_5.weaken (fun _ _ _ _ => trivial)⟩⟩ rfl rfl hl_b7.1 rfl (lv_room (Nat.le_of_ble_eq_true rfl)) dX7_addFrom_26 ⟨Nat.le_of_ble_eq_true rfl, Nat.le_of_ble_eq_true rfl⟩) hS_b7 (fun q _ h => hFc_5 q h) hFc_5 (fun r_5 u_5 t_5 H_5 locs_5 ht_5 hvm_5 hw_5 hB_5 hz_5 hk_5 hS_5 => ?_)
          subst hw_5
          obtain ⟨w_5, hP1_5, hD1_5⟩ := hB_5
          rw [ht_5] at hP1_5
          obtain ⟨hP_5, hD_5⟩ := va_join (wr := []) (w1 := [(h0, .inr (10, oX7 (.ref h1) v_count_7 v_over_7 v_there)), (h1, .inl (k0, nv_items, .inl v_items_7))]) hP_b7 hD_b7 [0, 1] [] rfl rfl (by decide) (by decide) hk_5 hFc_5 hP1_5 hD1_5
          have hP_5 := hP_5.sub (ws' := [(h0, .inr (10, oX7 (.ref h1) v_count_7 v_over_7 v_there)), (h1, .inl (k0, nv_items, .inl v_items_7))]) [0, 1] rfl
          have hD_5 := hD_5.sub (ws' := [(h0, .inr (10, oX7 (.ref h1) v_count_7 v_over_7 v_there)), (h1, .inl (k0, nv_items, .inl v_items_7))]) [0, 1] (by decide) rfl
          clear hPc_5 hDc_5 hKc_5 hFc_5 hP1_5 hD1_5 hk_5 hz_5
          have hPc_6 := hP_5.sub (ws' := [(h0, .inr (10, oX7 (.ref h1) v_count_7 v_over_7 v_there)), (h1, .inl (k0, nv_items, .inl v_items_7))]) [0, 1] rfl
          have hDc_6 := hD_5.sub (ws' := [(h0, .inr (10, oX7 (.ref h1) v_count_7 v_over_7 v_there)), (h1, .inl (k0, nv_items, .inl v_items_7))]) [0, 1] (by decide) rfl
          have hKc_6 := hK.sub (tys' := [(k0, .int)]) [0] rfl
          have hFc_6 := va_free (wc := [(h0, .inr (10, oX7 (.ref h1) v_count_7 v_over_7 v_there)), (h1, .inl (k0, nv_items, .inl v_items_7))]) hD_5 hS_5 hA [0, 1] rfl
          refine va_callv (va_runV (As := [.int r_5]) (rest := []) ⟨hx, hb, hml, hown, ht⟩ (mt_X7_add l dC dI h0 h1 k0 r_5 v_count_7 v_over_7 v_there v_items_7 nv_items _ w_5 H_5.size) (cwV 1 ht (goodV tw_1282 tw_866 tw_867 tw_237 gw_X7_add) rfl rfl rfl (by decide +kernel) ⟨Nat.le_of_ble_eq_true rfl, Nat.le_of_ble_eq_true rfl⟩) ⟨fun a U g mk q => by obtain ⟨q0, q1, qP, qK, qD⟩ := q; exact ⟨q0, q1, qP, va_K.moved (u := U) (U := U.calling g mk a) (Vm.Alike.refl U.vm) qK, qD⟩, va_recv hKc_6 hPc_6 (ci := 10) (q0 := 0) rfl rfl, fun U hU hW => ⟨rfl, by rw [hU], by rw [hU]; exact hPc_6, va_K.moved hW.alike hKc_6, hDc_6.weaken (fun _ _ _ _ => trivial)⟩⟩ rfl rfl hl_b7.1 rfl (lv_room (Nat.le_of_ble_eq_true rfl)) dX7_addFrom_29 ⟨Nat.le_of_ble_eq_true rfl, Nat.le_of_ble_eq_true rfl⟩) hS_5 (fun q _ h => hFc_6 q h) hFc_6 (fun u_6 t_6 H_6 locs_6 ht_6 hvm_6 hw_6 hB_6 hz_6 hk_6 hS_6 => ?_)
          subst hw_6
          obtain ⟨r_6_0, r_6_1, r_6_2, w_6, hP1_6, hD1_6⟩ := hB_6
          rw [ht_6] at hP1_6
          obtain ⟨hP_6, hD_6⟩ := va_join (wr := []) (w1 := [(h0, .inr (10, oX7 (.ref h1) r_6_0 r_6_1 v_there)), (h1, .inl (k0, nv_items, .inl r_6_2))]) hP_5 hD_5 [0, 1] [] rfl rfl (by decide) (by decide) hk_6 hFc_6 hP1_6 hD1_6
          have hP_6 := hP_6.sub (ws' := [(h0, .inr (10, oX7 (.ref h1) r_6_0 r_6_1 v_there)), (h1, .inl (k0, nv_items, .inl r_6_2))]) [0, 1] rfl
          have hD_6 := hD_6.sub (ws' := [(h0, .inr (10, oX7 (.ref h1) r_6_0 r_6_1 v_there)), (h1, .inl (k0, nv_items, .inl r_6_2))]) [0, 1] (by decide) rfl
          clear hPc_6 hDc_6 hKc_6 hFc_6 hP1_6 hD1_6 hk_6 hz_6
          obtain ⟨x_7, ex_7⟩ : ∃ y : Int32, y = l4_7 + 1 := ⟨_, rfl⟩
          refine lv_iinc (v := x_7) (lv' := [(4, .int x_7), (0, .ref h0), (1, .ref h0), (3, .int p3)]) hx hb dX7_addFrom_32 hl_b7 (k := 3) rfl ex_7.symm (by decide) rfl (fun ls_7 hl_7 => ?_)
          refine lv_goto (tgt := 7) hx hb dX7_addFrom_35 (by decide) ?_
          exact ih_7 x_7 r_6_0 r_6_1 r_6_2 _ _ _ (w_6 x_7 ex_7) hP_6 hD_6 hS_6 (lv_sub hl_7 [1, 2, 3, 0] rfl)
  obtain ⟨n_8, w_8⟩ := w x_1 ex_1
  exact k_7 n_8 x_1 v_count v_over v_items _ _ _ w_8 hP hD hS (lv_sub hl_2 [1, 2, 4, 0] rfl)
