def w_X10_partBegin_30 (Q : Int32 → Prop) (s0_30 : Int32) : Prop :=
  Q s0_30
def w_X10_partBegin_29 (Q : Int32 → Prop) : Prop :=
  w_X10_partBegin_30 Q 0
def w_X10_partBegin (p1 : Int32) (p2 : Int32) (v_count : Int32) (v_ranges : Int32) (v_low : Nat → Int32) (v_rangeBegin : Nat → Int32) (Q : Int32 → Prop) : Prop :=
  w_X10_lowOf p1 v_count v_low (fun r_1 => ∀ x_2 : Int32, x_2 = r_1 + p2 → ((x_2 < 0) → w_X10_partBegin_29 Q) ∧ ((¬ x_2 < 0) → ((v_ranges ≤ x_2) → w_X10_partBegin_29 Q) ∧ ((¬ v_ranges ≤ x_2) → vp_in x_2 512 ∧ ∀ x_6 : Int32, x_6 = v_rangeBegin x_2.toNatClampNeg → w_X10_partBegin_30 Q x_6)))
set_option maxHeartbeats 4000000 in
set_option maxRecDepth 100000 in
theorem mt_X10_partBegin (l : Launch) (dC : Nat → ClassId) (dI : Nat → Nat → Nat) (h0 h1 h2 h3 h4 h5 h6 h7 h8 h9 h10 h11 h12 h13 h14 h15 h16 : Nat) (k0 k1 : ClassId) (p1 : Int32) (p2 : Int32) (v_there : Bool) (v_count : Int32) (v_captures : Int32) (v_ranges : Int32) (v_low : Nat → Int32) (v_rangeBegin : Nat → Int32) (Q : Int32 → Prop) (w : w_X10_partBegin p1 p2 v_count v_ranges v_low v_rangeBegin Q) (sz : Nat) : Met l yX10_partBegin (WS yX10_partBegin cX10_partBegin 4 (some (.int))) ({ frames := 1, cells := 0, slots := 0, locals := 21 } : Room) (va_Pc [.ref h0, .int p1, .int p2] (fun U => U.heap.size = sz ∧ va_P (dC, dI) vwCl [(h0, .inr (13, oX10 v_there v_count v_captures v_ranges (.ref h3) (.ref h4) (.ref h5) (.ref h6) (.ref h7) (.ref h8) (.ref h9) (.ref h1) (.ref h10) (.ref h11) (.ref h12) (.ref h13) (.ref h14) (.ref h15) (.ref h2) (.ref h16))), (h1, .inl (k0, 256, .inl v_low)), (h2, .inl (k1, 512, .inl v_rangeBegin))] U.heap ∧ va_K (dC, dI) vwCl [(k0, .int), (k1, .int)] U ∧ va_D (fun _ => True) [(h0, .inr (13, oX10 v_there v_count v_captures v_ranges (.ref h3) (.ref h4) (.ref h5) (.ref h6) (.ref h7) (.ref h8) (.ref h9) (.ref h1) (.ref h10) (.ref h11) (.ref h12) (.ref h13) (.ref h14) (.ref h15) (.ref h2) (.ref h16))), (h1, .inl (k0, 256, .inl v_low)), (h2, .inl (k1, 512, .inl v_rangeBegin))])) (va_Qi (fun (r u : Int32) => r = u) (fun (u : Int32) (t : State) => (Q u) ∧ va_P (dC, dI) vwCl [(h0, .inr (13, oX10 v_there v_count v_captures v_ranges (.ref h3) (.ref h4) (.ref h5) (.ref h6) (.ref h7) (.ref h8) (.ref h9) (.ref h1) (.ref h10) (.ref h11) (.ref h12) (.ref h13) (.ref h14) (.ref h15) (.ref h2) (.ref h16))), (h1, .inl (k0, 256, .inl v_low)), (h2, .inl (k1, 512, .inl v_rangeBegin))] t.heap ∧ va_D (va_A [(h0, .inr (13, oX10 v_there v_count v_captures v_ranges (.ref h3) (.ref h4) (.ref h5) (.ref h6) (.ref h7) (.ref h8) (.ref h9) (.ref h1) (.ref h10) (.ref h11) (.ref h12) (.ref h13) (.ref h14) (.ref h15) (.ref h2) (.ref h16))), (h1, .inl (k0, 256, .inl v_low)), (h2, .inl (k1, 512, .inl v_rangeBegin))] sz) [(h0, .inr (13, oX10 v_there v_count v_captures v_ranges (.ref h3) (.ref h4) (.ref h5) (.ref h6) (.ref h7) (.ref h8) (.ref h9) (.ref h1) (.ref h10) (.ref h11) (.ref h12) (.ref h13) (.ref h14) (.ref h15) (.ref h2) (.ref h16))), (h1, .inl (k0, 256, .inl v_low)), (h2, .inl (k1, 512, .inl v_rangeBegin))]) (va_A [(h0, .inr (13, oX10 v_there v_count v_captures v_ranges (.ref h3) (.ref h4) (.ref h5) (.ref h6) (.ref h7) (.ref h8) (.ref h9) (.ref h1) (.ref h10) (.ref h11) (.ref h12) (.ref h13) (.ref h14) (.ref h15) (.ref h2) (.ref h16))), (h1, .inl (k0, 256, .inl v_low)), (h2, .inl (k1, 512, .inl v_rangeBegin))] sz)) 0 0 (va_A [(h0, .inr (13, oX10 v_there v_count v_captures v_ranges (.ref h3) (.ref h4) (.ref h5) (.ref h6) (.ref h7) (.ref h8) (.ref h9) (.ref h1) (.ref h10) (.ref h11) (.ref h12) (.ref h13) (.ref h14) (.ref h15) (.ref h2) (.ref h16))), (h1, .inl (k0, 256, .inl v_low)), (h2, .inl (k1, 512, .inl v_rangeBegin))] sz) := by
  refine Met.ofW (cc := cX10_partBegin) (maxL := 4) (ret := (some (.int))) (by decide) rfl ?_
  intro p e s m args below meth c s₁ B hml hv
  obtain ⟨rfl, hsz, hP, hK, hD0⟩ := hv
  have hx := B.exec
  have hb := B.bytes
  have hr := B.returns
  have hts := atoms_spec (ws := WS yX10_partBegin cX10_partBegin 4 (some (.int))) B.pre
  have ht : ∀ w ∈ TW, w.before _ s = true := fun w h => hts w (List.mem_cons_of_mem _ h)
  have hown : s.vm.findClass "PatternWorkshop$Tree" = some m.cls := findClass_of_methodNamed B.named
  have hlocks := B.notSynchronized
  subst hsz
  have hD := hD0.self (sz := s.heap.size)
  generalize hAe : va_A [(h0, .inr (13, oX10 v_there v_count v_captures v_ranges (.ref h3) (.ref h4) (.ref h5) (.ref h6) (.ref h7) (.ref h8) (.ref h9) (.ref h1) (.ref h10) (.ref h11) (.ref h12) (.ref h13) (.ref h14) (.ref h15) (.ref h2) (.ref h16))), (h1, .inl (k0, 256, .inl v_low)), (h2, .inl (k1, 512, .inl v_rangeBegin))] s.heap.size = A at hD ⊢
  have hA : ∀ q : Nat, s.heap.size ≤ q → A q := fun q h => by rw [← hAe]; exact Or.inr h
  have hS : va_S A s.heap s.heap [] := va_S.rf
  have hP : va_P (dC, dI) vwCl [(h0, .inr (13, oX10 v_there v_count v_captures v_ranges (.ref h3) (.ref h4) (.ref h5) (.ref h6) (.ref h7) (.ref h8) (.ref h9) (.ref h1) (.ref h10) (.ref h11) (.ref h12) (.ref h13) (.ref h14) (.ref h15) (.ref h2) (.ref h16))), (h1, .inl (k0, 256, .inl v_low)), (h2, .inl (k1, 512, .inl v_rangeBegin))] s.heap := hP
  have hl := lv_entry ([.ref h0, .int p1, .int p2]) (n := 4) (Nat.le_of_ble_eq_true rfl)
  rw [lg_entry_eq]
  generalize (lg_sl ([.ref h0, .int p1, .int p2]) ++ List.replicate (4 - (lg_sl ([.ref h0, .int p1, .int p2])).length) Slot.unset).toArray = ls at hl ⊢
  have hl : lv_has ls 4 [(0, .ref h0), (1, .int p1), (2, .int p2)] := hl
  clear hD0
  obtain ⟨QQ, hQQ⟩ : ∃ QQ, QQ = MQ below (va_Qi (fun (r u : Int32) => r = u) (fun (u : Int32) (t : State) => (Q u) ∧ va_P (dC, dI) vwCl [(h0, .inr (13, oX10 v_there v_count v_captures v_ranges (.ref h3) (.ref h4) (.ref h5) (.ref h6) (.ref h7) (.ref h8) (.ref h9) (.ref h1) (.ref h10) (.ref h11) (.ref h12) (.ref h13) (.ref h14) (.ref h15) (.ref h2) (.ref h16))), (h1, .inl (k0, 256, .inl v_low)), (h2, .inl (k1, 512, .inl v_rangeBegin))] t.heap ∧ va_D A [(h0, .inr (13, oX10 v_there v_count v_captures v_ranges (.ref h3) (.ref h4) (.ref h5) (.ref h6) (.ref h7) (.ref h8) (.ref h9) (.ref h1) (.ref h10) (.ref h11) (.ref h12) (.ref h13) (.ref h14) (.ref h15) (.ref h2) (.ref h16))), (h1, .inl (k0, 256, .inl v_low)), (h2, .inl (k1, 512, .inl v_rangeBegin))]) A) ([.ref h0, .int p1, .int p2]).toArray s 0 0 A := ⟨_, rfl⟩
  show W p l e ({ frames := 1, cells := 0, slots := 0, locals := 21 } : Room) s m ([.ref h0, .int p1, .int p2]).toArray below meth c s.heap [] 0 0 (MQ below (va_Qi (fun (r u : Int32) => r = u) (fun (u : Int32) (t : State) => (Q u) ∧ va_P (dC, dI) vwCl [(h0, .inr (13, oX10 v_there v_count v_captures v_ranges (.ref h3) (.ref h4) (.ref h5) (.ref h6) (.ref h7) (.ref h8) (.ref h9) (.ref h1) (.ref h10) (.ref h11) (.ref h12) (.ref h13) (.ref h14) (.ref h15) (.ref h2) (.ref h16))), (h1, .inl (k0, 256, .inl v_low)), (h2, .inl (k1, 512, .inl v_rangeBegin))] t.heap ∧ va_D A [(h0, .inr (13, oX10 v_there v_count v_captures v_ranges (.ref h3) (.ref h4) (.ref h5) (.ref h6) (.ref h7) (.ref h8) (.ref h9) (.ref h1) (.ref h10) (.ref h11) (.ref h12) (.ref h13) (.ref h14) (.ref h15) (.ref h2) (.ref h16))), (h1, .inl (k0, 256, .inl v_low)), (h2, .inl (k1, 512, .inl v_rangeBegin))]) A) ([.ref h0, .int p1, .int p2]).toArray s 0 0 A) (F0 m 0 ls [])
  rw [← hQQ]
  unfold w_X10_partBegin at w
  refine lv_aload_n hx hb dX10_partBegin_0 rfl (lv_at hl 0 rfl) ?_
  refine lv_iload_n hx hb dX10_partBegin_1 rfl (lv_at hl 1 rfl) ?_
  have hPc_1 := hP.sub (ws' := [(h0, .inr (13, oX10 v_there v_count v_captures v_ranges (.ref h3) (.ref h4) (.ref h5) (.ref h6) (.ref h7) (.ref h8) (.ref h9) (.ref h1) (.ref h10) (.ref h11) (.ref h12) (.ref h13) (.ref h14) (.ref h15) (.ref h2) (.ref h16))), (h1, .inl (k0, 256, .inl v_low))]) [0, 1] rfl
  have hDc_1 := hD.sub (ws' := [(h0, .inr (13, oX10 v_there v_count v_captures v_ranges (.ref h3) (.ref h4) (.ref h5) (.ref h6) (.ref h7) (.ref h8) (.ref h9) (.ref h1) (.ref h10) (.ref h11) (.ref h12) (.ref h13) (.ref h14) (.ref h15) (.ref h2) (.ref h16))), (h1, .inl (k0, 256, .inl v_low))]) [0, 1] (by decide) rfl
  have hKc_1 := hK.sub (tys' := [(k0, .int)]) [0] rfl
  have hFc_1 := va_free (wc := [(h0, .inr (13, oX10 v_there v_count v_captures v_ranges (.ref h3) (.ref h4) (.ref h5) (.ref h6) (.ref h7) (.ref h8) (.ref h9) (.ref h1) (.ref h10) (.ref h11) (.ref h12) (.ref h13) (.ref h14) (.ref h15) (.ref h2) (.ref h16))), (h1, .inl (k0, 256, .inl v_low))]) hD hS hA [0, 1] rfl
  refine va_calli (va_runV (As := [.int p1]) (rest := []) ⟨hx, hb, hml, hown, ht⟩ (mt_X10_lowOf l dC dI h0 h1 h3 h4 h5 h6 h7 h8 h9 h10 h11 h12 h13 h14 h15 h2 h16 k0 p1 v_there v_count v_captures v_ranges v_low _ w s.heap.size) (cwV 1 ht (goodV tw_1109 tw_1110 tw_1111 tw_240 gw_X10_lowOf) rfl rfl rfl (by decide +kernel) ⟨Nat.le_of_ble_eq_true rfl, Nat.le_of_ble_eq_true rfl⟩) ⟨fun a U g mk q => by obtain ⟨q0, q1, qP, qK, qD⟩ := q; exact ⟨q0, q1, qP, va_K.moved (u := U) (U := U.calling g mk a) (Vm.Alike.refl U.vm) qK, qD⟩, va_recv hKc_1 hPc_1 (ci := 13) (q0 := 0) rfl rfl, fun U hU hW => ⟨rfl, by rw [hU], by rw [hU]; exact hPc_1, va_K.moved hW.alike hKc_1, hDc_1.weaken (fun _ _ _ _ => trivial)⟩⟩ rfl rfl hl.1 rfl (lv_room (Nat.le_of_ble_eq_true rfl)) dX10_partBegin_2 ⟨Nat.le_of_ble_eq_true rfl, Nat.le_of_ble_eq_true rfl⟩) hS (fun q _ h => hFc_1 q h) hFc_1 (fun r_1 u_1 t_1 H_1 locs_1 ht_1 hvm_1 hw_1 hB_1 hz_1 hk_1 hS_1 => ?_)
  subst hw_1
  obtain ⟨w_1, hP1_1, hD1_1⟩ := hB_1
  rw [ht_1] at hP1_1
  obtain ⟨hP_1, hD_1⟩ := va_join (wr := [(h2, .inl (k1, 512, .inl v_rangeBegin))]) (w1 := [(h0, .inr (13, oX10 v_there v_count v_captures v_ranges (.ref h3) (.ref h4) (.ref h5) (.ref h6) (.ref h7) (.ref h8) (.ref h9) (.ref h1) (.ref h10) (.ref h11) (.ref h12) (.ref h13) (.ref h14) (.ref h15) (.ref h2) (.ref h16))), (h1, .inl (k0, 256, .inl v_low))]) hP hD [0, 1] [2] rfl rfl (by decide) (by decide) hk_1 hFc_1 hP1_1 hD1_1
  have hP_1 := hP_1.sub (ws' := [(h0, .inr (13, oX10 v_there v_count v_captures v_ranges (.ref h3) (.ref h4) (.ref h5) (.ref h6) (.ref h7) (.ref h8) (.ref h9) (.ref h1) (.ref h10) (.ref h11) (.ref h12) (.ref h13) (.ref h14) (.ref h15) (.ref h2) (.ref h16))), (h1, .inl (k0, 256, .inl v_low)), (h2, .inl (k1, 512, .inl v_rangeBegin))]) [1, 2, 0] rfl
  have hD_1 := hD_1.sub (ws' := [(h0, .inr (13, oX10 v_there v_count v_captures v_ranges (.ref h3) (.ref h4) (.ref h5) (.ref h6) (.ref h7) (.ref h8) (.ref h9) (.ref h1) (.ref h10) (.ref h11) (.ref h12) (.ref h13) (.ref h14) (.ref h15) (.ref h2) (.ref h16))), (h1, .inl (k0, 256, .inl v_low)), (h2, .inl (k1, 512, .inl v_rangeBegin))]) [1, 2, 0] (by decide) rfl
  clear hPc_1 hDc_1 hKc_1 hFc_1 hP1_1 hD1_1 hk_1 hz_1
  refine lv_iload_n hx hb dX10_partBegin_5 rfl (lv_at hl 2 rfl) ?_
  refine lv_iadd hx hb dX10_partBegin_6 ?_
  refine lv_topi (fun x_2 ex_2 => ?_)
  have ex_2 : x_2 = r_1 + p2 := ex_2
  refine lv_istore_n (lv' := [(3, .int x_2), (0, .ref h0), (1, .int p1), (2, .int p2)]) hx hb dX10_partBegin_7 rfl hl (by decide) rfl (fun ls_3 hl_3 => ?_)
  clear hl
  refine lv_iload_n hx hb dX10_partBegin_8 rfl (lv_at hl_3 0 rfl) ?_
  have k_30 : ∀ (s0_30 : Int32), ∀ (H_b30 : Heap) (locs_b30 : List Loc) (ls_b30 : Array Slot), w_X10_partBegin_30 Q s0_30 → va_P (dC, dI) vwCl [(h0, .inr (13, oX10 v_there v_count v_captures v_ranges (.ref h3) (.ref h4) (.ref h5) (.ref h6) (.ref h7) (.ref h8) (.ref h9) (.ref h1) (.ref h10) (.ref h11) (.ref h12) (.ref h13) (.ref h14) (.ref h15) (.ref h2) (.ref h16))), (h1, .inl (k0, 256, .inl v_low)), (h2, .inl (k1, 512, .inl v_rangeBegin))] H_b30 → va_D A [(h0, .inr (13, oX10 v_there v_count v_captures v_ranges (.ref h3) (.ref h4) (.ref h5) (.ref h6) (.ref h7) (.ref h8) (.ref h9) (.ref h1) (.ref h10) (.ref h11) (.ref h12) (.ref h13) (.ref h14) (.ref h15) (.ref h2) (.ref h16))), (h1, .inl (k0, 256, .inl v_low)), (h2, .inl (k1, 512, .inl v_rangeBegin))] → va_S A s.heap H_b30 locs_b30 → lv_has ls_b30 4 [] → W p l e ({ frames := 1, cells := 0, slots := 0, locals := 21 } : Room) s m ([.ref h0, .int p1, .int p2]).toArray below meth c H_b30 locs_b30 0 0 QQ (F0 m 30 ls_b30 [.int s0_30]) := by
    intro s0_30 H_b30 locs_b30 ls_b30 w_b30 hP_b30 hD_b30 hS_b30 hl_b30
    unfold w_X10_partBegin_30 at w_b30
    rw [hQQ]
    exact W.iret (v := s0_30) hx hb hr (fun t9 ht9 hW9 => ⟨⟨s0_30, s0_30, rfl, rfl, ⟨w_b30, by rw [ht9]; exact hP_b30, hD_b30⟩⟩, hS_b30.F ht9⟩) hS_b30.2.2 dX10_partBegin_30
  have k_29 : ∀ (H_b29 : Heap) (locs_b29 : List Loc) (ls_b29 : Array Slot), w_X10_partBegin_29 Q → va_P (dC, dI) vwCl [(h0, .inr (13, oX10 v_there v_count v_captures v_ranges (.ref h3) (.ref h4) (.ref h5) (.ref h6) (.ref h7) (.ref h8) (.ref h9) (.ref h1) (.ref h10) (.ref h11) (.ref h12) (.ref h13) (.ref h14) (.ref h15) (.ref h2) (.ref h16))), (h1, .inl (k0, 256, .inl v_low)), (h2, .inl (k1, 512, .inl v_rangeBegin))] H_b29 → va_D A [(h0, .inr (13, oX10 v_there v_count v_captures v_ranges (.ref h3) (.ref h4) (.ref h5) (.ref h6) (.ref h7) (.ref h8) (.ref h9) (.ref h1) (.ref h10) (.ref h11) (.ref h12) (.ref h13) (.ref h14) (.ref h15) (.ref h2) (.ref h16))), (h1, .inl (k0, 256, .inl v_low)), (h2, .inl (k1, 512, .inl v_rangeBegin))] → va_S A s.heap H_b29 locs_b29 → lv_has ls_b29 4 [] → W p l e ({ frames := 1, cells := 0, slots := 0, locals := 21 } : Room) s m ([.ref h0, .int p1, .int p2]).toArray below meth c H_b29 locs_b29 0 0 QQ (F0 m 29 ls_b29 []) := by
    intro  H_b29 locs_b29 ls_b29 w_b29 hP_b29 hD_b29 hS_b29 hl_b29
    unfold w_X10_partBegin_29 at w_b29
    refine lv_iconst (v := 0) hx hb dX10_partBegin_29 (by decide) ?_
    exact k_30 0 _ _ _ w_b29 hP_b29 hD_b29 hS_b29 (lv_sub hl_b29 [] rfl)
  refine lv_if_lt (tgt := 29) hx hb dX10_partBegin_9 (by decide) (fun c_4 => ?_) (fun c_4 => ?_)
  · exact k_29  _ _ _ ((w_1 x_2 ex_2).1 c_4) hP_1 hD_1 hS_1 (lv_sub hl_3 [] rfl)
  · refine lv_iload_n hx hb dX10_partBegin_12 rfl (lv_at hl_3 0 rfl) ?_
    refine lv_aload_n hx hb dX10_partBegin_13 rfl (lv_at hl_3 1 rfl) ?_
    refine va_get (D := (dC, dI)) (ci := 13) (v := .int v_ranges) (C := RX10) (T := TX10) (N := 20) hx hb ht inX10 hown hK hP_1 0 rfl rfl 3 (by decide) (ht _ tw_326) (fun _ h9 => h9) rfl dX10_partBegin_14 ?_
    refine lv_icmp_ge (tgt := 29) hx hb dX10_partBegin_17 (by decide) (fun c_5 => ?_) (fun c_5 => ?_)
    · exact k_29  _ _ _ (((w_1 x_2 ex_2).2 c_4).1 c_5) hP_1 hD_1 hS_1 (lv_sub hl_3 [] rfl)
    · refine lv_aload_n hx hb dX10_partBegin_20 rfl (lv_at hl_3 1 rfl) ?_
      refine va_get (D := (dC, dI)) (ci := 13) (v := .ref h2) (C := RX10) (T := TX10) (N := 20) hx hb ht inX10 hown hK hP_1 0 rfl rfl 18 (by decide) (ht _ tw_341) (fun _ h9 => h9) rfl dX10_partBegin_21 ?_
      refine lv_iload_n hx hb dX10_partBegin_24 rfl (lv_at hl_3 0 rfl) ?_
      refine va_iald hx hb hK hP_1 2 1 rfl rfl (i := x_2) (((w_1 x_2 ex_2).2 c_4).2 c_5).1 dX10_partBegin_25 ?_
      refine lv_topi (fun x_6 ex_6 => ?_)
      have ex_6 : x_6 = v_rangeBegin x_2.toNatClampNeg := ex_6
      refine lv_goto (tgt := 30) hx hb dX10_partBegin_26 (by decide) ?_
      have w_7 := ((((w_1 x_2 ex_2).2 c_4).2 c_5).2) x_6 ex_6
      exact k_30 x_6 _ _ _ w_7 hP_1 hD_1 hS_1 (lv_sub hl_3 [] rfl)
def w_X10_partEnd_30 (Q : Int32 → Prop) (s0_30 : Int32) : Prop :=
  Q s0_30
def w_X10_partEnd_29 (Q : Int32 → Prop) : Prop :=
  w_X10_partEnd_30 Q 0
def w_X10_partEnd (p1 : Int32) (p2 : Int32) (v_count : Int32) (v_ranges : Int32) (v_low : Nat → Int32) (v_rangeEnd : Nat → Int32) (Q : Int32 → Prop) : Prop :=
  w_X10_lowOf p1 v_count v_low (fun r_1 => ∀ x_2 : Int32, x_2 = r_1 + p2 → ((x_2 < 0) → w_X10_partEnd_29 Q) ∧ ((¬ x_2 < 0) → ((v_ranges ≤ x_2) → w_X10_partEnd_29 Q) ∧ ((¬ v_ranges ≤ x_2) → vp_in x_2 512 ∧ ∀ x_6 : Int32, x_6 = v_rangeEnd x_2.toNatClampNeg → w_X10_partEnd_30 Q x_6)))
set_option maxHeartbeats 4000000 in
set_option maxRecDepth 100000 in
theorem mt_X10_partEnd (l : Launch) (dC : Nat → ClassId) (dI : Nat → Nat → Nat) (h0 h1 h2 h3 h4 h5 h6 h7 h8 h9 h10 h11 h12 h13 h14 h15 h16 : Nat) (k0 k1 : ClassId) (p1 : Int32) (p2 : Int32) (v_there : Bool) (v_count : Int32) (v_captures : Int32) (v_ranges : Int32) (v_low : Nat → Int32) (v_rangeEnd : Nat → Int32) (Q : Int32 → Prop) (w : w_X10_partEnd p1 p2 v_count v_ranges v_low v_rangeEnd Q) (sz : Nat) : Met l yX10_partEnd (WS yX10_partEnd cX10_partEnd 4 (some (.int))) ({ frames := 1, cells := 0, slots := 0, locals := 21 } : Room) (va_Pc [.ref h0, .int p1, .int p2] (fun U => U.heap.size = sz ∧ va_P (dC, dI) vwCl [(h0, .inr (13, oX10 v_there v_count v_captures v_ranges (.ref h3) (.ref h4) (.ref h5) (.ref h6) (.ref h7) (.ref h8) (.ref h9) (.ref h1) (.ref h10) (.ref h11) (.ref h12) (.ref h13) (.ref h14) (.ref h15) (.ref h16) (.ref h2))), (h1, .inl (k0, 256, .inl v_low)), (h2, .inl (k1, 512, .inl v_rangeEnd))] U.heap ∧ va_K (dC, dI) vwCl [(k0, .int), (k1, .int)] U ∧ va_D (fun _ => True) [(h0, .inr (13, oX10 v_there v_count v_captures v_ranges (.ref h3) (.ref h4) (.ref h5) (.ref h6) (.ref h7) (.ref h8) (.ref h9) (.ref h1) (.ref h10) (.ref h11) (.ref h12) (.ref h13) (.ref h14) (.ref h15) (.ref h16) (.ref h2))), (h1, .inl (k0, 256, .inl v_low)), (h2, .inl (k1, 512, .inl v_rangeEnd))])) (va_Qi (fun (r u : Int32) => r = u) (fun (u : Int32) (t : State) => (Q u) ∧ va_P (dC, dI) vwCl [(h0, .inr (13, oX10 v_there v_count v_captures v_ranges (.ref h3) (.ref h4) (.ref h5) (.ref h6) (.ref h7) (.ref h8) (.ref h9) (.ref h1) (.ref h10) (.ref h11) (.ref h12) (.ref h13) (.ref h14) (.ref h15) (.ref h16) (.ref h2))), (h1, .inl (k0, 256, .inl v_low)), (h2, .inl (k1, 512, .inl v_rangeEnd))] t.heap ∧ va_D (va_A [(h0, .inr (13, oX10 v_there v_count v_captures v_ranges (.ref h3) (.ref h4) (.ref h5) (.ref h6) (.ref h7) (.ref h8) (.ref h9) (.ref h1) (.ref h10) (.ref h11) (.ref h12) (.ref h13) (.ref h14) (.ref h15) (.ref h16) (.ref h2))), (h1, .inl (k0, 256, .inl v_low)), (h2, .inl (k1, 512, .inl v_rangeEnd))] sz) [(h0, .inr (13, oX10 v_there v_count v_captures v_ranges (.ref h3) (.ref h4) (.ref h5) (.ref h6) (.ref h7) (.ref h8) (.ref h9) (.ref h1) (.ref h10) (.ref h11) (.ref h12) (.ref h13) (.ref h14) (.ref h15) (.ref h16) (.ref h2))), (h1, .inl (k0, 256, .inl v_low)), (h2, .inl (k1, 512, .inl v_rangeEnd))]) (va_A [(h0, .inr (13, oX10 v_there v_count v_captures v_ranges (.ref h3) (.ref h4) (.ref h5) (.ref h6) (.ref h7) (.ref h8) (.ref h9) (.ref h1) (.ref h10) (.ref h11) (.ref h12) (.ref h13) (.ref h14) (.ref h15) (.ref h16) (.ref h2))), (h1, .inl (k0, 256, .inl v_low)), (h2, .inl (k1, 512, .inl v_rangeEnd))] sz)) 0 0 (va_A [(h0, .inr (13, oX10 v_there v_count v_captures v_ranges (.ref h3) (.ref h4) (.ref h5) (.ref h6) (.ref h7) (.ref h8) (.ref h9) (.ref h1) (.ref h10) (.ref h11) (.ref h12) (.ref h13) (.ref h14) (.ref h15) (.ref h16) (.ref h2))), (h1, .inl (k0, 256, .inl v_low)), (h2, .inl (k1, 512, .inl v_rangeEnd))] sz) := by
  refine Met.ofW (cc := cX10_partEnd) (maxL := 4) (ret := (some (.int))) (by decide) rfl ?_
  intro p e s m args below meth c s₁ B hml hv
  obtain ⟨rfl, hsz, hP, hK, hD0⟩ := hv
  have hx := B.exec
  have hb := B.bytes
  have hr := B.returns
  have hts := atoms_spec (ws := WS yX10_partEnd cX10_partEnd 4 (some (.int))) B.pre
  have ht : ∀ w ∈ TW, w.before _ s = true := fun w h => hts w (List.mem_cons_of_mem _ h)
  have hown : s.vm.findClass "PatternWorkshop$Tree" = some m.cls := findClass_of_methodNamed B.named
  have hlocks := B.notSynchronized
  subst hsz
  have hD := hD0.self (sz := s.heap.size)
  generalize hAe : va_A [(h0, .inr (13, oX10 v_there v_count v_captures v_ranges (.ref h3) (.ref h4) (.ref h5) (.ref h6) (.ref h7) (.ref h8) (.ref h9) (.ref h1) (.ref h10) (.ref h11) (.ref h12) (.ref h13) (.ref h14) (.ref h15) (.ref h16) (.ref h2))), (h1, .inl (k0, 256, .inl v_low)), (h2, .inl (k1, 512, .inl v_rangeEnd))] s.heap.size = A at hD ⊢
  have hA : ∀ q : Nat, s.heap.size ≤ q → A q := fun q h => by rw [← hAe]; exact Or.inr h
  have hS : va_S A s.heap s.heap [] := va_S.rf
  have hP : va_P (dC, dI) vwCl [(h0, .inr (13, oX10 v_there v_count v_captures v_ranges (.ref h3) (.ref h4) (.ref h5) (.ref h6) (.ref h7) (.ref h8) (.ref h9) (.ref h1) (.ref h10) (.ref h11) (.ref h12) (.ref h13) (.ref h14) (.ref h15) (.ref h16) (.ref h2))), (h1, .inl (k0, 256, .inl v_low)), (h2, .inl (k1, 512, .inl v_rangeEnd))] s.heap := hP
  have hl := lv_entry ([.ref h0, .int p1, .int p2]) (n := 4) (Nat.le_of_ble_eq_true rfl)
  rw [lg_entry_eq]
  generalize (lg_sl ([.ref h0, .int p1, .int p2]) ++ List.replicate (4 - (lg_sl ([.ref h0, .int p1, .int p2])).length) Slot.unset).toArray = ls at hl ⊢
  have hl : lv_has ls 4 [(0, .ref h0), (1, .int p1), (2, .int p2)] := hl
  clear hD0
  obtain ⟨QQ, hQQ⟩ : ∃ QQ, QQ = MQ below (va_Qi (fun (r u : Int32) => r = u) (fun (u : Int32) (t : State) => (Q u) ∧ va_P (dC, dI) vwCl [(h0, .inr (13, oX10 v_there v_count v_captures v_ranges (.ref h3) (.ref h4) (.ref h5) (.ref h6) (.ref h7) (.ref h8) (.ref h9) (.ref h1) (.ref h10) (.ref h11) (.ref h12) (.ref h13) (.ref h14) (.ref h15) (.ref h16) (.ref h2))), (h1, .inl (k0, 256, .inl v_low)), (h2, .inl (k1, 512, .inl v_rangeEnd))] t.heap ∧ va_D A [(h0, .inr (13, oX10 v_there v_count v_captures v_ranges (.ref h3) (.ref h4) (.ref h5) (.ref h6) (.ref h7) (.ref h8) (.ref h9) (.ref h1) (.ref h10) (.ref h11) (.ref h12) (.ref h13) (.ref h14) (.ref h15) (.ref h16) (.ref h2))), (h1, .inl (k0, 256, .inl v_low)), (h2, .inl (k1, 512, .inl v_rangeEnd))]) A) ([.ref h0, .int p1, .int p2]).toArray s 0 0 A := ⟨_, rfl⟩
  show W p l e ({ frames := 1, cells := 0, slots := 0, locals := 21 } : Room) s m ([.ref h0, .int p1, .int p2]).toArray below meth c s.heap [] 0 0 (MQ below (va_Qi (fun (r u : Int32) => r = u) (fun (u : Int32) (t : State) => (Q u) ∧ va_P (dC, dI) vwCl [(h0, .inr (13, oX10 v_there v_count v_captures v_ranges (.ref h3) (.ref h4) (.ref h5) (.ref h6) (.ref h7) (.ref h8) (.ref h9) (.ref h1) (.ref h10) (.ref h11) (.ref h12) (.ref h13) (.ref h14) (.ref h15) (.ref h16) (.ref h2))), (h1, .inl (k0, 256, .inl v_low)), (h2, .inl (k1, 512, .inl v_rangeEnd))] t.heap ∧ va_D A [(h0, .inr (13, oX10 v_there v_count v_captures v_ranges (.ref h3) (.ref h4) (.ref h5) (.ref h6) (.ref h7) (.ref h8) (.ref h9) (.ref h1) (.ref h10) (.ref h11) (.ref h12) (.ref h13) (.ref h14) (.ref h15) (.ref h16) (.ref h2))), (h1, .inl (k0, 256, .inl v_low)), (h2, .inl (k1, 512, .inl v_rangeEnd))]) A) ([.ref h0, .int p1, .int p2]).toArray s 0 0 A) (F0 m 0 ls [])
  rw [← hQQ]
  unfold w_X10_partEnd at w
  refine lv_aload_n hx hb dX10_partEnd_0 rfl (lv_at hl 0 rfl) ?_
  refine lv_iload_n hx hb dX10_partEnd_1 rfl (lv_at hl 1 rfl) ?_
  have hPc_1 := hP.sub (ws' := [(h0, .inr (13, oX10 v_there v_count v_captures v_ranges (.ref h3) (.ref h4) (.ref h5) (.ref h6) (.ref h7) (.ref h8) (.ref h9) (.ref h1) (.ref h10) (.ref h11) (.ref h12) (.ref h13) (.ref h14) (.ref h15) (.ref h16) (.ref h2))), (h1, .inl (k0, 256, .inl v_low))]) [0, 1] rfl
  have hDc_1 := hD.sub (ws' := [(h0, .inr (13, oX10 v_there v_count v_captures v_ranges (.ref h3) (.ref h4) (.ref h5) (.ref h6) (.ref h7) (.ref h8) (.ref h9) (.ref h1) (.ref h10) (.ref h11) (.ref h12) (.ref h13) (.ref h14) (.ref h15) (.ref h16) (.ref h2))), (h1, .inl (k0, 256, .inl v_low))]) [0, 1] (by decide) rfl
  have hKc_1 := hK.sub (tys' := [(k0, .int)]) [0] rfl
  have hFc_1 := va_free (wc := [(h0, .inr (13, oX10 v_there v_count v_captures v_ranges (.ref h3) (.ref h4) (.ref h5) (.ref h6) (.ref h7) (.ref h8) (.ref h9) (.ref h1) (.ref h10) (.ref h11) (.ref h12) (.ref h13) (.ref h14) (.ref h15) (.ref h16) (.ref h2))), (h1, .inl (k0, 256, .inl v_low))]) hD hS hA [0, 1] rfl
  refine va_calli (va_runV (As := [.int p1]) (rest := []) ⟨hx, hb, hml, hown, ht⟩ (mt_X10_lowOf l dC dI h0 h1 h3 h4 h5 h6 h7 h8 h9 h10 h11 h12 h13 h14 h15 h16 h2 k0 p1 v_there v_count v_captures v_ranges v_low _ w s.heap.size) (cwV 1 ht (goodV tw_1109 tw_1110 tw_1111 tw_240 gw_X10_lowOf) rfl rfl rfl (by decide +kernel) ⟨Nat.le_of_ble_eq_true rfl, Nat.le_of_ble_eq_true rfl⟩) ⟨fun a U g mk q => by obtain ⟨q0, q1, qP, qK, qD⟩ := q; exact ⟨q0, q1, qP, va_K.moved (u := U) (U := U.calling g mk a) (Vm.Alike.refl U.vm) qK, qD⟩, va_recv hKc_1 hPc_1 (ci := 13) (q0 := 0) rfl rfl, fun U hU hW => ⟨rfl, by rw [hU], by rw [hU]; exact hPc_1, va_K.moved hW.alike hKc_1, hDc_1.weaken (fun _ _ _ _ => trivial)⟩⟩ rfl rfl hl.1 rfl (lv_room (Nat.le_of_ble_eq_true rfl)) dX10_partEnd_2 ⟨Nat.le_of_ble_eq_true rfl, Nat.le_of_ble_eq_true rfl⟩) hS (fun q _ h => hFc_1 q h) hFc_1 (fun r_1 u_1 t_1 H_1 locs_1 ht_1 hvm_1 hw_1 hB_1 hz_1 hk_1 hS_1 => ?_)
  subst hw_1
  obtain ⟨w_1, hP1_1, hD1_1⟩ := hB_1
  rw [ht_1] at hP1_1
  obtain ⟨hP_1, hD_1⟩ := va_join (wr := [(h2, .inl (k1, 512, .inl v_rangeEnd))]) (w1 := [(h0, .inr (13, oX10 v_there v_count v_captures v_ranges (.ref h3) (.ref h4) (.ref h5) (.ref h6) (.ref h7) (.ref h8) (.ref h9) (.ref h1) (.ref h10) (.ref h11) (.ref h12) (.ref h13) (.ref h14) (.ref h15) (.ref h16) (.ref h2))), (h1, .inl (k0, 256, .inl v_low))]) hP hD [0, 1] [2] rfl rfl (by decide) (by decide) hk_1 hFc_1 hP1_1 hD1_1
  have hP_1 := hP_1.sub (ws' := [(h0, .inr (13, oX10 v_there v_count v_captures v_ranges (.ref h3) (.ref h4) (.ref h5) (.ref h6) (.ref h7) (.ref h8) (.ref h9) (.ref h1) (.ref h10) (.ref h11) (.ref h12) (.ref h13) (.ref h14) (.ref h15) (.ref h16) (.ref h2))), (h1, .inl (k0, 256, .inl v_low)), (h2, .inl (k1, 512, .inl v_rangeEnd))]) [1, 2, 0] rfl
  have hD_1 := hD_1.sub (ws' := [(h0, .inr (13, oX10 v_there v_count v_captures v_ranges (.ref h3) (.ref h4) (.ref h5) (.ref h6) (.ref h7) (.ref h8) (.ref h9) (.ref h1) (.ref h10) (.ref h11) (.ref h12) (.ref h13) (.ref h14) (.ref h15) (.ref h16) (.ref h2))), (h1, .inl (k0, 256, .inl v_low)), (h2, .inl (k1, 512, .inl v_rangeEnd))]) [1, 2, 0] (by decide) rfl
  clear hPc_1 hDc_1 hKc_1 hFc_1 hP1_1 hD1_1 hk_1 hz_1
  refine lv_iload_n hx hb dX10_partEnd_5 rfl (lv_at hl 2 rfl) ?_
  refine lv_iadd hx hb dX10_partEnd_6 ?_
  refine lv_topi (fun x_2 ex_2 => ?_)
  have ex_2 : x_2 = r_1 + p2 := ex_2
  refine lv_istore_n (lv' := [(3, .int x_2), (0, .ref h0), (1, .int p1), (2, .int p2)]) hx hb dX10_partEnd_7 rfl hl (by decide) rfl (fun ls_3 hl_3 => ?_)
  clear hl
  refine lv_iload_n hx hb dX10_partEnd_8 rfl (lv_at hl_3 0 rfl) ?_
  have k_30 : ∀ (s0_30 : Int32), ∀ (H_b30 : Heap) (locs_b30 : List Loc) (ls_b30 : Array Slot), w_X10_partEnd_30 Q s0_30 → va_P (dC, dI) vwCl [(h0, .inr (13, oX10 v_there v_count v_captures v_ranges (.ref h3) (.ref h4) (.ref h5) (.ref h6) (.ref h7) (.ref h8) (.ref h9) (.ref h1) (.ref h10) (.ref h11) (.ref h12) (.ref h13) (.ref h14) (.ref h15) (.ref h16) (.ref h2))), (h1, .inl (k0, 256, .inl v_low)), (h2, .inl (k1, 512, .inl v_rangeEnd))] H_b30 → va_D A [(h0, .inr (13, oX10 v_there v_count v_captures v_ranges (.ref h3) (.ref h4) (.ref h5) (.ref h6) (.ref h7) (.ref h8) (.ref h9) (.ref h1) (.ref h10) (.ref h11) (.ref h12) (.ref h13) (.ref h14) (.ref h15) (.ref h16) (.ref h2))), (h1, .inl (k0, 256, .inl v_low)), (h2, .inl (k1, 512, .inl v_rangeEnd))] → va_S A s.heap H_b30 locs_b30 → lv_has ls_b30 4 [] → W p l e ({ frames := 1, cells := 0, slots := 0, locals := 21 } : Room) s m ([.ref h0, .int p1, .int p2]).toArray below meth c H_b30 locs_b30 0 0 QQ (F0 m 30 ls_b30 [.int s0_30]) := by
    intro s0_30 H_b30 locs_b30 ls_b30 w_b30 hP_b30 hD_b30 hS_b30 hl_b30
    unfold w_X10_partEnd_30 at w_b30
    rw [hQQ]
    exact W.iret (v := s0_30) hx hb hr (fun t9 ht9 hW9 => ⟨⟨s0_30, s0_30, rfl, rfl, ⟨w_b30, by rw [ht9]; exact hP_b30, hD_b30⟩⟩, hS_b30.F ht9⟩) hS_b30.2.2 dX10_partEnd_30
  have k_29 : ∀ (H_b29 : Heap) (locs_b29 : List Loc) (ls_b29 : Array Slot), w_X10_partEnd_29 Q → va_P (dC, dI) vwCl [(h0, .inr (13, oX10 v_there v_count v_captures v_ranges (.ref h3) (.ref h4) (.ref h5) (.ref h6) (.ref h7) (.ref h8) (.ref h9) (.ref h1) (.ref h10) (.ref h11) (.ref h12) (.ref h13) (.ref h14) (.ref h15) (.ref h16) (.ref h2))), (h1, .inl (k0, 256, .inl v_low)), (h2, .inl (k1, 512, .inl v_rangeEnd))] H_b29 → va_D A [(h0, .inr (13, oX10 v_there v_count v_captures v_ranges (.ref h3) (.ref h4) (.ref h5) (.ref h6) (.ref h7) (.ref h8) (.ref h9) (.ref h1) (.ref h10) (.ref h11) (.ref h12) (.ref h13) (.ref h14) (.ref h15) (.ref h16) (.ref h2))), (h1, .inl (k0, 256, .inl v_low)), (h2, .inl (k1, 512, .inl v_rangeEnd))] → va_S A s.heap H_b29 locs_b29 → lv_has ls_b29 4 [] → W p l e ({ frames := 1, cells := 0, slots := 0, locals := 21 } : Room) s m ([.ref h0, .int p1, .int p2]).toArray below meth c H_b29 locs_b29 0 0 QQ (F0 m 29 ls_b29 []) := by
    intro  H_b29 locs_b29 ls_b29 w_b29 hP_b29 hD_b29 hS_b29 hl_b29
    unfold w_X10_partEnd_29 at w_b29
    refine lv_iconst (v := 0) hx hb dX10_partEnd_29 (by decide) ?_
    exact k_30 0 _ _ _ w_b29 hP_b29 hD_b29 hS_b29 (lv_sub hl_b29 [] rfl)
  refine lv_if_lt (tgt := 29) hx hb dX10_partEnd_9 (by decide) (fun c_4 => ?_) (fun c_4 => ?_)
  · exact k_29  _ _ _ ((w_1 x_2 ex_2).1 c_4) hP_1 hD_1 hS_1 (lv_sub hl_3 [] rfl)
  · refine lv_iload_n hx hb dX10_partEnd_12 rfl (lv_at hl_3 0 rfl) ?_
    refine lv_aload_n hx hb dX10_partEnd_13 rfl (lv_at hl_3 1 rfl) ?_
    refine va_get (D := (dC, dI)) (ci := 13) (v := .int v_ranges) (C := RX10) (T := TX10) (N := 20) hx hb ht inX10 hown hK hP_1 0 rfl rfl 3 (by decide) (ht _ tw_326) (fun _ h9 => h9) rfl dX10_partEnd_14 ?_
    refine lv_icmp_ge (tgt := 29) hx hb dX10_partEnd_17 (by decide) (fun c_5 => ?_) (fun c_5 => ?_)
    · exact k_29  _ _ _ (((w_1 x_2 ex_2).2 c_4).1 c_5) hP_1 hD_1 hS_1 (lv_sub hl_3 [] rfl)
    · refine lv_aload_n hx hb dX10_partEnd_20 rfl (lv_at hl_3 1 rfl) ?_
      refine va_get (D := (dC, dI)) (ci := 13) (v := .ref h2) (C := RX10) (T := TX10) (N := 20) hx hb ht inX10 hown hK hP_1 0 rfl rfl 19 (by decide) (ht _ tw_342) (fun _ h9 => h9) rfl dX10_partEnd_21 ?_
      refine lv_iload_n hx hb dX10_partEnd_24 rfl (lv_at hl_3 0 rfl) ?_
      refine va_iald hx hb hK hP_1 2 1 rfl rfl (i := x_2) (((w_1 x_2 ex_2).2 c_4).2 c_5).1 dX10_partEnd_25 ?_
      refine lv_topi (fun x_6 ex_6 => ?_)
      have ex_6 : x_6 = v_rangeEnd x_2.toNatClampNeg := ex_6
      refine lv_goto (tgt := 30) hx hb dX10_partEnd_26 (by decide) ?_
      have w_7 := ((((w_1 x_2 ex_2).2 c_4).2 c_5).2) x_6 ex_6
      exact k_30 x_6 _ _ _ w_7 hP_1 hD_1 hS_1 (lv_sub hl_3 [] rfl)
def w_X10_firstOf_31 (Q : Int32 → Prop) (s0_31 : Int32) : Prop :=
  Q s0_31
def w_X10_firstOf_30 (Q : Int32 → Prop) : Prop :=
  w_X10_firstOf_31 Q (-1)
def w_X10_firstOf (p1 : Int32) (v_count : Int32) (v_end : Nat → Int32) (Q : Int32 → Prop) : Prop :=
  ((p1 < 0) → w_X10_firstOf_30 Q) ∧ ((¬ p1 < 0) → ((v_count ≤ p1) → w_X10_firstOf_30 Q) ∧ ((¬ v_count ≤ p1) → vp_in p1 256 ∧ ∀ x_3 : Int32, x_3 = v_end p1.toNatClampNeg → ∀ x_4 : Int32, x_4 = p1 + (1 : Int32) → ((x_3 ≤ x_4) → w_X10_firstOf_30 Q) ∧ ((¬ x_3 ≤ x_4) → ∀ x_7 : Int32, x_7 = p1 + (1 : Int32) → w_X10_firstOf_31 Q x_7)))
set_option maxHeartbeats 4000000 in
set_option maxRecDepth 100000 in
theorem mt_X10_firstOf (l : Launch) (dC : Nat → ClassId) (dI : Nat → Nat → Nat) (h0 h1 h2 h3 h4 h5 h6 h7 h8 h9 h10 h11 h12 h13 h14 h15 h16 : Nat) (k0 : ClassId) (p1 : Int32) (v_there : Bool) (v_count : Int32) (v_captures : Int32) (v_ranges : Int32) (v_end : Nat → Int32) (Q : Int32 → Prop) (w : w_X10_firstOf p1 v_count v_end Q) (sz : Nat) : Met l yX10_firstOf (WS yX10_firstOf cX10_firstOf 2 (some (.int))) ({ frames := 0, cells := 0, slots := 0, locals := 0 } : Room) (va_Pc [.ref h0, .int p1] (fun U => U.heap.size = sz ∧ va_P (dC, dI) vwCl [(h0, .inr (13, oX10 v_there v_count v_captures v_ranges (.ref h2) (.ref h3) (.ref h1) (.ref h4) (.ref h5) (.ref h6) (.ref h7) (.ref h8) (.ref h9) (.ref h10) (.ref h11) (.ref h12) (.ref h13) (.ref h14) (.ref h15) (.ref h16))), (h1, .inl (k0, 256, .inl v_end))] U.heap ∧ va_K (dC, dI) vwCl [(k0, .int)] U ∧ va_D (fun _ => True) [(h0, .inr (13, oX10 v_there v_count v_captures v_ranges (.ref h2) (.ref h3) (.ref h1) (.ref h4) (.ref h5) (.ref h6) (.ref h7) (.ref h8) (.ref h9) (.ref h10) (.ref h11) (.ref h12) (.ref h13) (.ref h14) (.ref h15) (.ref h16))), (h1, .inl (k0, 256, .inl v_end))])) (va_Qi (fun (r u : Int32) => r = u) (fun (u : Int32) (t : State) => (Q u) ∧ va_P (dC, dI) vwCl [(h0, .inr (13, oX10 v_there v_count v_captures v_ranges (.ref h2) (.ref h3) (.ref h1) (.ref h4) (.ref h5) (.ref h6) (.ref h7) (.ref h8) (.ref h9) (.ref h10) (.ref h11) (.ref h12) (.ref h13) (.ref h14) (.ref h15) (.ref h16))), (h1, .inl (k0, 256, .inl v_end))] t.heap ∧ va_D (va_A [(h0, .inr (13, oX10 v_there v_count v_captures v_ranges (.ref h2) (.ref h3) (.ref h1) (.ref h4) (.ref h5) (.ref h6) (.ref h7) (.ref h8) (.ref h9) (.ref h10) (.ref h11) (.ref h12) (.ref h13) (.ref h14) (.ref h15) (.ref h16))), (h1, .inl (k0, 256, .inl v_end))] sz) [(h0, .inr (13, oX10 v_there v_count v_captures v_ranges (.ref h2) (.ref h3) (.ref h1) (.ref h4) (.ref h5) (.ref h6) (.ref h7) (.ref h8) (.ref h9) (.ref h10) (.ref h11) (.ref h12) (.ref h13) (.ref h14) (.ref h15) (.ref h16))), (h1, .inl (k0, 256, .inl v_end))]) (va_A [(h0, .inr (13, oX10 v_there v_count v_captures v_ranges (.ref h2) (.ref h3) (.ref h1) (.ref h4) (.ref h5) (.ref h6) (.ref h7) (.ref h8) (.ref h9) (.ref h10) (.ref h11) (.ref h12) (.ref h13) (.ref h14) (.ref h15) (.ref h16))), (h1, .inl (k0, 256, .inl v_end))] sz)) 0 0 (va_A [(h0, .inr (13, oX10 v_there v_count v_captures v_ranges (.ref h2) (.ref h3) (.ref h1) (.ref h4) (.ref h5) (.ref h6) (.ref h7) (.ref h8) (.ref h9) (.ref h10) (.ref h11) (.ref h12) (.ref h13) (.ref h14) (.ref h15) (.ref h16))), (h1, .inl (k0, 256, .inl v_end))] sz) := by
  refine Met.ofW (cc := cX10_firstOf) (maxL := 2) (ret := (some (.int))) (by decide) rfl ?_
  intro p e s m args below meth c s₁ B hml hv
  obtain ⟨rfl, hsz, hP, hK, hD0⟩ := hv
  have hx := B.exec
  have hb := B.bytes
  have hr := B.returns
  have hts := atoms_spec (ws := WS yX10_firstOf cX10_firstOf 2 (some (.int))) B.pre
  have ht : ∀ w ∈ TW, w.before _ s = true := fun w h => hts w (List.mem_cons_of_mem _ h)
  have hown : s.vm.findClass "PatternWorkshop$Tree" = some m.cls := findClass_of_methodNamed B.named
  have hlocks := B.notSynchronized
  subst hsz
  have hD := hD0.self (sz := s.heap.size)
  generalize hAe : va_A [(h0, .inr (13, oX10 v_there v_count v_captures v_ranges (.ref h2) (.ref h3) (.ref h1) (.ref h4) (.ref h5) (.ref h6) (.ref h7) (.ref h8) (.ref h9) (.ref h10) (.ref h11) (.ref h12) (.ref h13) (.ref h14) (.ref h15) (.ref h16))), (h1, .inl (k0, 256, .inl v_end))] s.heap.size = A at hD ⊢
  have hA : ∀ q : Nat, s.heap.size ≤ q → A q := fun q h => by rw [← hAe]; exact Or.inr h
  have hS : va_S A s.heap s.heap [] := va_S.rf
  have hP : va_P (dC, dI) vwCl [(h0, .inr (13, oX10 v_there v_count v_captures v_ranges (.ref h2) (.ref h3) (.ref h1) (.ref h4) (.ref h5) (.ref h6) (.ref h7) (.ref h8) (.ref h9) (.ref h10) (.ref h11) (.ref h12) (.ref h13) (.ref h14) (.ref h15) (.ref h16))), (h1, .inl (k0, 256, .inl v_end))] s.heap := hP
  have hl := lv_entry ([.ref h0, .int p1]) (n := 2) (Nat.le_of_ble_eq_true rfl)
  rw [lg_entry_eq]
  generalize (lg_sl ([.ref h0, .int p1]) ++ List.replicate (2 - (lg_sl ([.ref h0, .int p1])).length) Slot.unset).toArray = ls at hl ⊢
  have hl : lv_has ls 2 [(0, .ref h0), (1, .int p1)] := hl
  clear hD0
  obtain ⟨QQ, hQQ⟩ : ∃ QQ, QQ = MQ below (va_Qi (fun (r u : Int32) => r = u) (fun (u : Int32) (t : State) => (Q u) ∧ va_P (dC, dI) vwCl [(h0, .inr (13, oX10 v_there v_count v_captures v_ranges (.ref h2) (.ref h3) (.ref h1) (.ref h4) (.ref h5) (.ref h6) (.ref h7) (.ref h8) (.ref h9) (.ref h10) (.ref h11) (.ref h12) (.ref h13) (.ref h14) (.ref h15) (.ref h16))), (h1, .inl (k0, 256, .inl v_end))] t.heap ∧ va_D A [(h0, .inr (13, oX10 v_there v_count v_captures v_ranges (.ref h2) (.ref h3) (.ref h1) (.ref h4) (.ref h5) (.ref h6) (.ref h7) (.ref h8) (.ref h9) (.ref h10) (.ref h11) (.ref h12) (.ref h13) (.ref h14) (.ref h15) (.ref h16))), (h1, .inl (k0, 256, .inl v_end))]) A) ([.ref h0, .int p1]).toArray s 0 0 A := ⟨_, rfl⟩
  show W p l e ({ frames := 0, cells := 0, slots := 0, locals := 0 } : Room) s m ([.ref h0, .int p1]).toArray below meth c s.heap [] 0 0 (MQ below (va_Qi (fun (r u : Int32) => r = u) (fun (u : Int32) (t : State) => (Q u) ∧ va_P (dC, dI) vwCl [(h0, .inr (13, oX10 v_there v_count v_captures v_ranges (.ref h2) (.ref h3) (.ref h1) (.ref h4) (.ref h5) (.ref h6) (.ref h7) (.ref h8) (.ref h9) (.ref h10) (.ref h11) (.ref h12) (.ref h13) (.ref h14) (.ref h15) (.ref h16))), (h1, .inl (k0, 256, .inl v_end))] t.heap ∧ va_D A [(h0, .inr (13, oX10 v_there v_count v_captures v_ranges (.ref h2) (.ref h3) (.ref h1) (.ref h4) (.ref h5) (.ref h6) (.ref h7) (.ref h8) (.ref h9) (.ref h10) (.ref h11) (.ref h12) (.ref h13) (.ref h14) (.ref h15) (.ref h16))), (h1, .inl (k0, 256, .inl v_end))]) A) ([.ref h0, .int p1]).toArray s 0 0 A) (F0 m 0 ls [])
  rw [← hQQ]
  unfold w_X10_firstOf at w
  refine lv_iload_n hx hb dX10_firstOf_0 rfl (lv_at hl 1 rfl) ?_
  have k_31 : ∀ (s0_31 : Int32), ∀ (H_b31 : Heap) (locs_b31 : List Loc) (ls_b31 : Array Slot), w_X10_firstOf_31 Q s0_31 → va_P (dC, dI) vwCl [(h0, .inr (13, oX10 v_there v_count v_captures v_ranges (.ref h2) (.ref h3) (.ref h1) (.ref h4) (.ref h5) (.ref h6) (.ref h7) (.ref h8) (.ref h9) (.ref h10) (.ref h11) (.ref h12) (.ref h13) (.ref h14) (.ref h15) (.ref h16))), (h1, .inl (k0, 256, .inl v_end))] H_b31 → va_D A [(h0, .inr (13, oX10 v_there v_count v_captures v_ranges (.ref h2) (.ref h3) (.ref h1) (.ref h4) (.ref h5) (.ref h6) (.ref h7) (.ref h8) (.ref h9) (.ref h10) (.ref h11) (.ref h12) (.ref h13) (.ref h14) (.ref h15) (.ref h16))), (h1, .inl (k0, 256, .inl v_end))] → va_S A s.heap H_b31 locs_b31 → lv_has ls_b31 2 [] → W p l e ({ frames := 0, cells := 0, slots := 0, locals := 0 } : Room) s m ([.ref h0, .int p1]).toArray below meth c H_b31 locs_b31 0 0 QQ (F0 m 31 ls_b31 [.int s0_31]) := by
    intro s0_31 H_b31 locs_b31 ls_b31 w_b31 hP_b31 hD_b31 hS_b31 hl_b31
    unfold w_X10_firstOf_31 at w_b31
    rw [hQQ]
    exact W.iret (v := s0_31) hx hb hr (fun t9 ht9 hW9 => ⟨⟨s0_31, s0_31, rfl, rfl, ⟨w_b31, by rw [ht9]; exact hP_b31, hD_b31⟩⟩, hS_b31.F ht9⟩) hS_b31.2.2 dX10_firstOf_31
  have k_30 : ∀ (H_b30 : Heap) (locs_b30 : List Loc) (ls_b30 : Array Slot), w_X10_firstOf_30 Q → va_P (dC, dI) vwCl [(h0, .inr (13, oX10 v_there v_count v_captures v_ranges (.ref h2) (.ref h3) (.ref h1) (.ref h4) (.ref h5) (.ref h6) (.ref h7) (.ref h8) (.ref h9) (.ref h10) (.ref h11) (.ref h12) (.ref h13) (.ref h14) (.ref h15) (.ref h16))), (h1, .inl (k0, 256, .inl v_end))] H_b30 → va_D A [(h0, .inr (13, oX10 v_there v_count v_captures v_ranges (.ref h2) (.ref h3) (.ref h1) (.ref h4) (.ref h5) (.ref h6) (.ref h7) (.ref h8) (.ref h9) (.ref h10) (.ref h11) (.ref h12) (.ref h13) (.ref h14) (.ref h15) (.ref h16))), (h1, .inl (k0, 256, .inl v_end))] → va_S A s.heap H_b30 locs_b30 → lv_has ls_b30 2 [] → W p l e ({ frames := 0, cells := 0, slots := 0, locals := 0 } : Room) s m ([.ref h0, .int p1]).toArray below meth c H_b30 locs_b30 0 0 QQ (F0 m 30 ls_b30 []) := by
    intro  H_b30 locs_b30 ls_b30 w_b30 hP_b30 hD_b30 hS_b30 hl_b30
    unfold w_X10_firstOf_30 at w_b30
    refine lv_iconst (v := (-1)) hx hb dX10_firstOf_30 (by decide) ?_
    exact k_31 (-1) _ _ _ w_b30 hP_b30 hD_b30 hS_b30 (lv_sub hl_b30 [] rfl)
  refine lv_if_lt (tgt := 30) hx hb dX10_firstOf_1 (by decide) (fun c_1 => ?_) (fun c_1 => ?_)
  · exact k_30  _ _ _ (w.1 c_1) hP hD hS (lv_sub hl [] rfl)
  · refine lv_iload_n hx hb dX10_firstOf_4 rfl (lv_at hl 1 rfl) ?_
    refine lv_aload_n hx hb dX10_firstOf_5 rfl (lv_at hl 0 rfl) ?_
    refine va_get (D := (dC, dI)) (ci := 13) (v := .int v_count) (C := RX10) (T := TX10) (N := 20) hx hb ht inX10 hown hK hP 0 rfl rfl 1 (by decide) (ht _ tw_319) (fun _ h9 => h9) rfl dX10_firstOf_6 ?_
    refine lv_icmp_ge (tgt := 30) hx hb dX10_firstOf_9 (by decide) (fun c_2 => ?_) (fun c_2 => ?_)
    · exact k_30  _ _ _ ((w.2 c_1).1 c_2) hP hD hS (lv_sub hl [] rfl)
    · refine lv_aload_n hx hb dX10_firstOf_12 rfl (lv_at hl 0 rfl) ?_
      refine va_get (D := (dC, dI)) (ci := 13) (v := .ref h1) (C := RX10) (T := TX10) (N := 20) hx hb ht inX10 hown hK hP 0 rfl rfl 6 (by decide) (ht _ tw_329) (fun _ h9 => h9) rfl dX10_firstOf_13 ?_
      refine lv_iload_n hx hb dX10_firstOf_16 rfl (lv_at hl 1 rfl) ?_
      refine va_iald hx hb hK hP 1 0 rfl rfl (i := p1) ((w.2 c_1).2 c_2).1 dX10_firstOf_17 ?_
      refine lv_topi (fun x_3 ex_3 => ?_)
      have ex_3 : x_3 = v_end p1.toNatClampNeg := ex_3
      refine lv_iload_n hx hb dX10_firstOf_18 rfl (lv_at hl 1 rfl) ?_
      refine lv_iconst (v := 1) hx hb dX10_firstOf_19 (by decide) ?_
      refine lv_iadd hx hb dX10_firstOf_20 ?_
      refine lv_topi (fun x_4 ex_4 => ?_)
      have ex_4 : x_4 = p1 + (1 : Int32) := ex_4
      have w_5 := ((((w.2 c_1).2 c_2).2) x_3 ex_3) x_4 ex_4
      refine lv_icmp_le (tgt := 30) hx hb dX10_firstOf_21 (by decide) (fun c_6 => ?_) (fun c_6 => ?_)
      · exact k_30  _ _ _ (w_5.1 c_6) hP hD hS (lv_sub hl [] rfl)
      · refine lv_iload_n hx hb dX10_firstOf_24 rfl (lv_at hl 1 rfl) ?_
        refine lv_iconst (v := 1) hx hb dX10_firstOf_25 (by decide) ?_
        refine lv_iadd hx hb dX10_firstOf_26 ?_
        refine lv_topi (fun x_7 ex_7 => ?_)
        have ex_7 : x_7 = p1 + (1 : Int32) := ex_7
        refine lv_goto (tgt := 31) hx hb dX10_firstOf_27 (by decide) ?_
        exact k_31 x_7 _ _ _ (w_5.2 c_6 x_7 ex_7) hP hD hS (lv_sub hl [] rfl)
def w_X10_nextOf_60 (Q : Int32 → Prop) (s0_60 : Int32) : Prop :=
  Q s0_60
def w_X10_nextOf_59 (Q : Int32 → Prop) : Prop :=
  w_X10_nextOf_60 Q (-1)
def w_X10_nextOf_22 (p1 : Int32) (v_count : Int32) (v_end : Nat → Int32) (Q : Int32 → Prop) (s0_22 : Int32) : Prop :=
  ((s0_22 < 0) → w_X10_nextOf_59 Q) ∧ ((¬ s0_22 < 0) → ((v_count ≤ s0_22) → w_X10_nextOf_59 Q) ∧ ((¬ v_count ≤ s0_22) → vp_in p1 256 ∧ ∀ x_4 : Int32, x_4 = v_end p1.toNatClampNeg → vp_in s0_22 256 ∧ ∀ x_5 : Int32, x_5 = v_end s0_22.toNatClampNeg → ((x_5 ≤ x_4) → w_X10_nextOf_59 Q) ∧ ((¬ x_5 ≤ x_4) → vp_in p1 256 ∧ ∀ x_8 : Int32, x_8 = v_end p1.toNatClampNeg → w_X10_nextOf_60 Q x_8)))
def w_X10_nextOf_21 (p1 : Int32) (v_count : Int32) (v_end : Nat → Int32) (Q : Int32 → Prop) : Prop :=
  w_X10_nextOf_22 p1 v_count v_end Q (-1)
def w_X10_nextOf (p1 : Int32) (v_count : Int32) (v_holder : Nat → Int32) (v_end : Nat → Int32) (Q : Int32 → Prop) : Prop :=
  ((p1 < 0) → w_X10_nextOf_21 p1 v_count v_end Q) ∧ ((¬ p1 < 0) → ((v_count ≤ p1) → w_X10_nextOf_21 p1 v_count v_end Q) ∧ ((¬ v_count ≤ p1) → vp_in p1 256 ∧ ∀ x_11 : Int32, x_11 = v_holder p1.toNatClampNeg → w_X10_nextOf_22 p1 v_count v_end Q x_11))
set_option maxHeartbeats 4000000 in
set_option maxRecDepth 100000 in
theorem mt_X10_nextOf (l : Launch) (dC : Nat → ClassId) (dI : Nat → Nat → Nat) (h0 h1 h2 h3 h4 h5 h6 h7 h8 h9 h10 h11 h12 h13 h14 h15 h16 : Nat) (k0 k1 : ClassId) (p1 : Int32) (v_there : Bool) (v_count : Int32) (v_captures : Int32) (v_ranges : Int32) (v_holder : Nat → Int32) (v_end : Nat → Int32) (Q : Int32 → Prop) (w : w_X10_nextOf p1 v_count v_holder v_end Q) (sz : Nat) : Met l yX10_nextOf (WS yX10_nextOf cX10_nextOf 3 (some (.int))) ({ frames := 0, cells := 0, slots := 0, locals := 0 } : Room) (va_Pc [.ref h0, .int p1] (fun U => U.heap.size = sz ∧ va_P (dC, dI) vwCl [(h0, .inr (13, oX10 v_there v_count v_captures v_ranges (.ref h3) (.ref h1) (.ref h2) (.ref h4) (.ref h5) (.ref h6) (.ref h7) (.ref h8) (.ref h9) (.ref h10) (.ref h11) (.ref h12) (.ref h13) (.ref h14) (.ref h15) (.ref h16))), (h1, .inl (k0, 256, .inl v_holder)), (h2, .inl (k1, 256, .inl v_end))] U.heap ∧ va_K (dC, dI) vwCl [(k0, .int), (k1, .int)] U ∧ va_D (fun _ => True) [(h0, .inr (13, oX10 v_there v_count v_captures v_ranges (.ref h3) (.ref h1) (.ref h2) (.ref h4) (.ref h5) (.ref h6) (.ref h7) (.ref h8) (.ref h9) (.ref h10) (.ref h11) (.ref h12) (.ref h13) (.ref h14) (.ref h15) (.ref h16))), (h1, .inl (k0, 256, .inl v_holder)), (h2, .inl (k1, 256, .inl v_end))])) (va_Qi (fun (r u : Int32) => r = u) (fun (u : Int32) (t : State) => (Q u) ∧ va_P (dC, dI) vwCl [(h0, .inr (13, oX10 v_there v_count v_captures v_ranges (.ref h3) (.ref h1) (.ref h2) (.ref h4) (.ref h5) (.ref h6) (.ref h7) (.ref h8) (.ref h9) (.ref h10) (.ref h11) (.ref h12) (.ref h13) (.ref h14) (.ref h15) (.ref h16))), (h1, .inl (k0, 256, .inl v_holder)), (h2, .inl (k1, 256, .inl v_end))] t.heap ∧ va_D (va_A [(h0, .inr (13, oX10 v_there v_count v_captures v_ranges (.ref h3) (.ref h1) (.ref h2) (.ref h4) (.ref h5) (.ref h6) (.ref h7) (.ref h8) (.ref h9) (.ref h10) (.ref h11) (.ref h12) (.ref h13) (.ref h14) (.ref h15) (.ref h16))), (h1, .inl (k0, 256, .inl v_holder)), (h2, .inl (k1, 256, .inl v_end))] sz) [(h0, .inr (13, oX10 v_there v_count v_captures v_ranges (.ref h3) (.ref h1) (.ref h2) (.ref h4) (.ref h5) (.ref h6) (.ref h7) (.ref h8) (.ref h9) (.ref h10) (.ref h11) (.ref h12) (.ref h13) (.ref h14) (.ref h15) (.ref h16))), (h1, .inl (k0, 256, .inl v_holder)), (h2, .inl (k1, 256, .inl v_end))]) (va_A [(h0, .inr (13, oX10 v_there v_count v_captures v_ranges (.ref h3) (.ref h1) (.ref h2) (.ref h4) (.ref h5) (.ref h6) (.ref h7) (.ref h8) (.ref h9) (.ref h10) (.ref h11) (.ref h12) (.ref h13) (.ref h14) (.ref h15) (.ref h16))), (h1, .inl (k0, 256, .inl v_holder)), (h2, .inl (k1, 256, .inl v_end))] sz)) 0 0 (va_A [(h0, .inr (13, oX10 v_there v_count v_captures v_ranges (.ref h3) (.ref h1) (.ref h2) (.ref h4) (.ref h5) (.ref h6) (.ref h7) (.ref h8) (.ref h9) (.ref h10) (.ref h11) (.ref h12) (.ref h13) (.ref h14) (.ref h15) (.ref h16))), (h1, .inl (k0, 256, .inl v_holder)), (h2, .inl (k1, 256, .inl v_end))] sz) := by
  refine Met.ofW (cc := cX10_nextOf) (maxL := 3) (ret := (some (.int))) (by decide) rfl ?_
  intro p e s m args below meth c s₁ B hml hv
  obtain ⟨rfl, hsz, hP, hK, hD0⟩ := hv
  have hx := B.exec
  have hb := B.bytes
  have hr := B.returns
  have hts := atoms_spec (ws := WS yX10_nextOf cX10_nextOf 3 (some (.int))) B.pre
  have ht : ∀ w ∈ TW, w.before _ s = true := fun w h => hts w (List.mem_cons_of_mem _ h)
  have hown : s.vm.findClass "PatternWorkshop$Tree" = some m.cls := findClass_of_methodNamed B.named
  have hlocks := B.notSynchronized
  subst hsz
  have hD := hD0.self (sz := s.heap.size)
  generalize hAe : va_A [(h0, .inr (13, oX10 v_there v_count v_captures v_ranges (.ref h3) (.ref h1) (.ref h2) (.ref h4) (.ref h5) (.ref h6) (.ref h7) (.ref h8) (.ref h9) (.ref h10) (.ref h11) (.ref h12) (.ref h13) (.ref h14) (.ref h15) (.ref h16))), (h1, .inl (k0, 256, .inl v_holder)), (h2, .inl (k1, 256, .inl v_end))] s.heap.size = A at hD ⊢
  have hA : ∀ q : Nat, s.heap.size ≤ q → A q := fun q h => by rw [← hAe]; exact Or.inr h
  have hS : va_S A s.heap s.heap [] := va_S.rf
  have hP : va_P (dC, dI) vwCl [(h0, .inr (13, oX10 v_there v_count v_captures v_ranges (.ref h3) (.ref h1) (.ref h2) (.ref h4) (.ref h5) (.ref h6) (.ref h7) (.ref h8) (.ref h9) (.ref h10) (.ref h11) (.ref h12) (.ref h13) (.ref h14) (.ref h15) (.ref h16))), (h1, .inl (k0, 256, .inl v_holder)), (h2, .inl (k1, 256, .inl v_end))] s.heap := hP
  have hl := lv_entry ([.ref h0, .int p1]) (n := 3) (Nat.le_of_ble_eq_true rfl)
  rw [lg_entry_eq]
  generalize (lg_sl ([.ref h0, .int p1]) ++ List.replicate (3 - (lg_sl ([.ref h0, .int p1])).length) Slot.unset).toArray = ls at hl ⊢
  have hl : lv_has ls 3 [(0, .ref h0), (1, .int p1)] := hl
  clear hD0
  obtain ⟨QQ, hQQ⟩ : ∃ QQ, QQ = MQ below (va_Qi (fun (r u : Int32) => r = u) (fun (u : Int32) (t : State) => (Q u) ∧ va_P (dC, dI) vwCl [(h0, .inr (13, oX10 v_there v_count v_captures v_ranges (.ref h3) (.ref h1) (.ref h2) (.ref h4) (.ref h5) (.ref h6) (.ref h7) (.ref h8) (.ref h9) (.ref h10) (.ref h11) (.ref h12) (.ref h13) (.ref h14) (.ref h15) (.ref h16))), (h1, .inl (k0, 256, .inl v_holder)), (h2, .inl (k1, 256, .inl v_end))] t.heap ∧ va_D A [(h0, .inr (13, oX10 v_there v_count v_captures v_ranges (.ref h3) (.ref h1) (.ref h2) (.ref h4) (.ref h5) (.ref h6) (.ref h7) (.ref h8) (.ref h9) (.ref h10) (.ref h11) (.ref h12) (.ref h13) (.ref h14) (.ref h15) (.ref h16))), (h1, .inl (k0, 256, .inl v_holder)), (h2, .inl (k1, 256, .inl v_end))]) A) ([.ref h0, .int p1]).toArray s 0 0 A := ⟨_, rfl⟩
  show W p l e ({ frames := 0, cells := 0, slots := 0, locals := 0 } : Room) s m ([.ref h0, .int p1]).toArray below meth c s.heap [] 0 0 (MQ below (va_Qi (fun (r u : Int32) => r = u) (fun (u : Int32) (t : State) => (Q u) ∧ va_P (dC, dI) vwCl [(h0, .inr (13, oX10 v_there v_count v_captures v_ranges (.ref h3) (.ref h1) (.ref h2) (.ref h4) (.ref h5) (.ref h6) (.ref h7) (.ref h8) (.ref h9) (.ref h10) (.ref h11) (.ref h12) (.ref h13) (.ref h14) (.ref h15) (.ref h16))), (h1, .inl (k0, 256, .inl v_holder)), (h2, .inl (k1, 256, .inl v_end))] t.heap ∧ va_D A [(h0, .inr (13, oX10 v_there v_count v_captures v_ranges (.ref h3) (.ref h1) (.ref h2) (.ref h4) (.ref h5) (.ref h6) (.ref h7) (.ref h8) (.ref h9) (.ref h10) (.ref h11) (.ref h12) (.ref h13) (.ref h14) (.ref h15) (.ref h16))), (h1, .inl (k0, 256, .inl v_holder)), (h2, .inl (k1, 256, .inl v_end))]) A) ([.ref h0, .int p1]).toArray s 0 0 A) (F0 m 0 ls [])
  rw [← hQQ]
  unfold w_X10_nextOf at w
  refine lv_iload_n hx hb dX10_nextOf_0 rfl (lv_at hl 1 rfl) ?_
  have k_22 : ∀ (s0_22 : Int32), ∀ (H_b22 : Heap) (locs_b22 : List Loc) (ls_b22 : Array Slot), w_X10_nextOf_22 p1 v_count v_end Q s0_22 → va_P (dC, dI) vwCl [(h0, .inr (13, oX10 v_there v_count v_captures v_ranges (.ref h3) (.ref h1) (.ref h2) (.ref h4) (.ref h5) (.ref h6) (.ref h7) (.ref h8) (.ref h9) (.ref h10) (.ref h11) (.ref h12) (.ref h13) (.ref h14) (.ref h15) (.ref h16))), (h1, .inl (k0, 256, .inl v_holder)), (h2, .inl (k1, 256, .inl v_end))] H_b22 → va_D A [(h0, .inr (13, oX10 v_there v_count v_captures v_ranges (.ref h3) (.ref h1) (.ref h2) (.ref h4) (.ref h5) (.ref h6) (.ref h7) (.ref h8) (.ref h9) (.ref h10) (.ref h11) (.ref h12) (.ref h13) (.ref h14) (.ref h15) (.ref h16))), (h1, .inl (k0, 256, .inl v_holder)), (h2, .inl (k1, 256, .inl v_end))] → va_S A s.heap H_b22 locs_b22 → lv_has ls_b22 3 [(0, .ref h0), (1, .int p1)] → W p l e ({ frames := 0, cells := 0, slots := 0, locals := 0 } : Room) s m ([.ref h0, .int p1]).toArray below meth c H_b22 locs_b22 0 0 QQ (F0 m 22 ls_b22 [.int s0_22]) := by
    intro s0_22 H_b22 locs_b22 ls_b22 w_b22 hP_b22 hD_b22 hS_b22 hl_b22
    unfold w_X10_nextOf_22 at w_b22
    refine lv_istore_n (lv' := [(2, .int s0_22), (0, .ref h0), (1, .int p1)]) hx hb dX10_nextOf_22 rfl hl_b22 (by decide) rfl (fun ls_1 hl_1 => ?_)
    clear hl_b22
    refine lv_iload_n hx hb dX10_nextOf_23 rfl (lv_at hl_1 0 rfl) ?_
    have k_60 : ∀ (s0_60 : Int32), ∀ (H_b60 : Heap) (locs_b60 : List Loc) (ls_b60 : Array Slot), w_X10_nextOf_60 Q s0_60 → va_P (dC, dI) vwCl [(h0, .inr (13, oX10 v_there v_count v_captures v_ranges (.ref h3) (.ref h1) (.ref h2) (.ref h4) (.ref h5) (.ref h6) (.ref h7) (.ref h8) (.ref h9) (.ref h10) (.ref h11) (.ref h12) (.ref h13) (.ref h14) (.ref h15) (.ref h16))), (h1, .inl (k0, 256, .inl v_holder)), (h2, .inl (k1, 256, .inl v_end))] H_b60 → va_D A [(h0, .inr (13, oX10 v_there v_count v_captures v_ranges (.ref h3) (.ref h1) (.ref h2) (.ref h4) (.ref h5) (.ref h6) (.ref h7) (.ref h8) (.ref h9) (.ref h10) (.ref h11) (.ref h12) (.ref h13) (.ref h14) (.ref h15) (.ref h16))), (h1, .inl (k0, 256, .inl v_holder)), (h2, .inl (k1, 256, .inl v_end))] → va_S A s.heap H_b60 locs_b60 → lv_has ls_b60 3 [] → W p l e ({ frames := 0, cells := 0, slots := 0, locals := 0 } : Room) s m ([.ref h0, .int p1]).toArray below meth c H_b60 locs_b60 0 0 QQ (F0 m 60 ls_b60 [.int s0_60]) := by
      intro s0_60 H_b60 locs_b60 ls_b60 w_b60 hP_b60 hD_b60 hS_b60 hl_b60
      unfold w_X10_nextOf_60 at w_b60
      rw [hQQ]
      exact W.iret (v := s0_60) hx hb hr (fun t9 ht9 hW9 => ⟨⟨s0_60, s0_60, rfl, rfl, ⟨w_b60, by rw [ht9]; exact hP_b60, hD_b60⟩⟩, hS_b60.F ht9⟩) hS_b60.2.2 dX10_nextOf_60
    have k_59 : ∀ (H_b59 : Heap) (locs_b59 : List Loc) (ls_b59 : Array Slot), w_X10_nextOf_59 Q → va_P (dC, dI) vwCl [(h0, .inr (13, oX10 v_there v_count v_captures v_ranges (.ref h3) (.ref h1) (.ref h2) (.ref h4) (.ref h5) (.ref h6) (.ref h7) (.ref h8) (.ref h9) (.ref h10) (.ref h11) (.ref h12) (.ref h13) (.ref h14) (.ref h15) (.ref h16))), (h1, .inl (k0, 256, .inl v_holder)), (h2, .inl (k1, 256, .inl v_end))] H_b59 → va_D A [(h0, .inr (13, oX10 v_there v_count v_captures v_ranges (.ref h3) (.ref h1) (.ref h2) (.ref h4) (.ref h5) (.ref h6) (.ref h7) (.ref h8) (.ref h9) (.ref h10) (.ref h11) (.ref h12) (.ref h13) (.ref h14) (.ref h15) (.ref h16))), (h1, .inl (k0, 256, .inl v_holder)), (h2, .inl (k1, 256, .inl v_end))] → va_S A s.heap H_b59 locs_b59 → lv_has ls_b59 3 [] → W p l e ({ frames := 0, cells := 0, slots := 0, locals := 0 } : Room) s m ([.ref h0, .int p1]).toArray below meth c H_b59 locs_b59 0 0 QQ (F0 m 59 ls_b59 []) := by
      intro  H_b59 locs_b59 ls_b59 w_b59 hP_b59 hD_b59 hS_b59 hl_b59
      unfold w_X10_nextOf_59 at w_b59
      refine lv_iconst (v := (-1)) hx hb dX10_nextOf_59 (by decide) ?_
      exact k_60 (-1) _ _ _ w_b59 hP_b59 hD_b59 hS_b59 (lv_sub hl_b59 [] rfl)
    refine lv_if_lt (tgt := 59) hx hb dX10_nextOf_24 (by decide) (fun c_2 => ?_) (fun c_2 => ?_)
    · exact k_59  _ _ _ (w_b22.1 c_2) hP_b22 hD_b22 hS_b22 (lv_sub hl_1 [] rfl)
    · refine lv_iload_n hx hb dX10_nextOf_27 rfl (lv_at hl_1 0 rfl) ?_
      refine lv_aload_n hx hb dX10_nextOf_28 rfl (lv_at hl_1 1 rfl) ?_
      refine va_get (D := (dC, dI)) (ci := 13) (v := .int v_count) (C := RX10) (T := TX10) (N := 20) hx hb ht inX10 hown hK hP_b22 0 rfl rfl 1 (by decide) (ht _ tw_319) (fun _ h9 => h9) rfl dX10_nextOf_29 ?_
      refine lv_icmp_ge (tgt := 59) hx hb dX10_nextOf_32 (by decide) (fun c_3 => ?_) (fun c_3 => ?_)
      · exact k_59  _ _ _ ((w_b22.2 c_2).1 c_3) hP_b22 hD_b22 hS_b22 (lv_sub hl_1 [] rfl)
      · refine lv_aload_n hx hb dX10_nextOf_35 rfl (lv_at hl_1 1 rfl) ?_
        refine va_get (D := (dC, dI)) (ci := 13) (v := .ref h2) (C := RX10) (T := TX10) (N := 20) hx hb ht inX10 hown hK hP_b22 0 rfl rfl 6 (by decide) (ht _ tw_329) (fun _ h9 => h9) rfl dX10_nextOf_36 ?_
        refine lv_iload_n hx hb dX10_nextOf_39 rfl (lv_at hl_1 2 rfl) ?_
        refine va_iald hx hb hK hP_b22 2 1 rfl rfl (i := p1) ((w_b22.2 c_2).2 c_3).1 dX10_nextOf_40 ?_
        refine lv_topi (fun x_4 ex_4 => ?_)
        have ex_4 : x_4 = v_end p1.toNatClampNeg := ex_4
        refine lv_aload_n hx hb dX10_nextOf_41 rfl (lv_at hl_1 1 rfl) ?_
        refine va_get (D := (dC, dI)) (ci := 13) (v := .ref h2) (C := RX10) (T := TX10) (N := 20) hx hb ht inX10 hown hK hP_b22 0 rfl rfl 6 (by decide) (ht _ tw_329) (fun _ h9 => h9) rfl dX10_nextOf_42 ?_
        refine lv_iload_n hx hb dX10_nextOf_45 rfl (lv_at hl_1 0 rfl) ?_
        refine va_iald hx hb hK hP_b22 2 1 rfl rfl (i := s0_22) ((((w_b22.2 c_2).2 c_3).2) x_4 ex_4).1 dX10_nextOf_46 ?_
        refine lv_topi (fun x_5 ex_5 => ?_)
        have ex_5 : x_5 = v_end s0_22.toNatClampNeg := ex_5
        have w_6 := (((((w_b22.2 c_2).2 c_3).2) x_4 ex_4).2) x_5 ex_5
        refine lv_icmp_ge (tgt := 59) hx hb dX10_nextOf_47 (by decide) (fun c_7 => ?_) (fun c_7 => ?_)
        · exact k_59  _ _ _ (w_6.1 c_7) hP_b22 hD_b22 hS_b22 (lv_sub hl_1 [] rfl)
        · refine lv_aload_n hx hb dX10_nextOf_50 rfl (lv_at hl_1 1 rfl) ?_
          refine va_get (D := (dC, dI)) (ci := 13) (v := .ref h2) (C := RX10) (T := TX10) (N := 20) hx hb ht inX10 hown hK hP_b22 0 rfl rfl 6 (by decide) (ht _ tw_329) (fun _ h9 => h9) rfl dX10_nextOf_51 ?_
          refine lv_iload_n hx hb dX10_nextOf_54 rfl (lv_at hl_1 2 rfl) ?_
          refine va_iald hx hb hK hP_b22 2 1 rfl rfl (i := p1) (w_6.2 c_7).1 dX10_nextOf_55 ?_
          refine lv_topi (fun x_8 ex_8 => ?_)
          have ex_8 : x_8 = v_end p1.toNatClampNeg := ex_8
          refine lv_goto (tgt := 60) hx hb dX10_nextOf_56 (by decide) ?_
          exact k_60 x_8 _ _ _ (((w_6.2 c_7).2) x_8 ex_8) hP_b22 hD_b22 hS_b22 (lv_sub hl_1 [] rfl)
  have k_21 : ∀ (H_b21 : Heap) (locs_b21 : List Loc) (ls_b21 : Array Slot), w_X10_nextOf_21 p1 v_count v_end Q → va_P (dC, dI) vwCl [(h0, .inr (13, oX10 v_there v_count v_captures v_ranges (.ref h3) (.ref h1) (.ref h2) (.ref h4) (.ref h5) (.ref h6) (.ref h7) (.ref h8) (.ref h9) (.ref h10) (.ref h11) (.ref h12) (.ref h13) (.ref h14) (.ref h15) (.ref h16))), (h1, .inl (k0, 256, .inl v_holder)), (h2, .inl (k1, 256, .inl v_end))] H_b21 → va_D A [(h0, .inr (13, oX10 v_there v_count v_captures v_ranges (.ref h3) (.ref h1) (.ref h2) (.ref h4) (.ref h5) (.ref h6) (.ref h7) (.ref h8) (.ref h9) (.ref h10) (.ref h11) (.ref h12) (.ref h13) (.ref h14) (.ref h15) (.ref h16))), (h1, .inl (k0, 256, .inl v_holder)), (h2, .inl (k1, 256, .inl v_end))] → va_S A s.heap H_b21 locs_b21 → lv_has ls_b21 3 [(0, .ref h0), (1, .int p1)] → W p l e ({ frames := 0, cells := 0, slots := 0, locals := 0 } : Room) s m ([.ref h0, .int p1]).toArray below meth c H_b21 locs_b21 0 0 QQ (F0 m 21 ls_b21 []) := by
    intro  H_b21 locs_b21 ls_b21 w_b21 hP_b21 hD_b21 hS_b21 hl_b21
    unfold w_X10_nextOf_21 at w_b21
    refine lv_iconst (v := (-1)) hx hb dX10_nextOf_21 (by decide) ?_
    exact k_22 (-1) _ _ _ w_b21 hP_b21 hD_b21 hS_b21 (lv_sub hl_b21 [0, 1] rfl)
  refine lv_if_lt (tgt := 21) hx hb dX10_nextOf_1 (by decide) (fun c_9 => ?_) (fun c_9 => ?_)
  · exact k_21  _ _ _ (w.1 c_9) hP hD hS (lv_sub hl [0, 1] rfl)
  · refine lv_iload_n hx hb dX10_nextOf_4 rfl (lv_at hl 1 rfl) ?_
    refine lv_aload_n hx hb dX10_nextOf_5 rfl (lv_at hl 0 rfl) ?_
    refine va_get (D := (dC, dI)) (ci := 13) (v := .int v_count) (C := RX10) (T := TX10) (N := 20) hx hb ht inX10 hown hK hP 0 rfl rfl 1 (by decide) (ht _ tw_319) (fun _ h9 => h9) rfl dX10_nextOf_6 ?_
    refine lv_icmp_ge (tgt := 21) hx hb dX10_nextOf_9 (by decide) (fun c_10 => ?_) (fun c_10 => ?_)
    · exact k_21  _ _ _ ((w.2 c_9).1 c_10) hP hD hS (lv_sub hl [0, 1] rfl)
    · refine lv_aload_n hx hb dX10_nextOf_12 rfl (lv_at hl 0 rfl) ?_
      refine va_get (D := (dC, dI)) (ci := 13) (v := .ref h1) (C := RX10) (T := TX10) (N := 20) hx hb ht inX10 hown hK hP 0 rfl rfl 5 (by decide) (ht _ tw_328) (fun _ h9 => h9) rfl dX10_nextOf_13 ?_
      refine lv_iload_n hx hb dX10_nextOf_16 rfl (lv_at hl 1 rfl) ?_
      refine va_iald hx hb hK hP 1 0 rfl rfl (i := p1) ((w.2 c_9).2 c_10).1 dX10_nextOf_17 ?_
      refine lv_topi (fun x_11 ex_11 => ?_)
      have ex_11 : x_11 = v_holder p1.toNatClampNeg := ex_11
      refine lv_goto (tgt := 22) hx hb dX10_nextOf_18 (by decide) ?_
      exact k_22 x_11 _ _ _ ((((w.2 c_9).2 c_10).2) x_11 ex_11) hP hD hS (lv_sub hl [0, 1] rfl)
def w_X10_somePartIsMarked_6B (v_count : Int32) (v_holder : Nat → Int32) (v_end : Nat → Int32) (v_marked : Nat → Bool) (Q : Int32 → Prop) (K6 : Int32 → Prop) (l2_6 : Int32) : Prop :=
  w_X10_has l2_6 v_count (fun r_3 => ((r_3 = 0) → Q 0) ∧ ((¬ r_3 = 0) → vp_in l2_6 256 ∧ ∀ x_5 : Int32, x_5 = bz (v_marked l2_6.toNatClampNeg) → ((x_5 = 0) → w_X10_nextOf l2_6 v_count v_holder v_end (fun r_7 => K6 r_7)) ∧ ((¬ x_5 = 0) → Q 1)))
def w_X10_somePartIsMarked_6 (v_count : Int32) (v_holder : Nat → Int32) (v_end : Nat → Int32) (v_marked : Nat → Bool) (Q : Int32 → Prop) : Nat → Int32 → Prop
  | 0, _ => False
  | n9 + 1, l2_6 => w_X10_somePartIsMarked_6B v_count v_holder v_end v_marked Q (w_X10_somePartIsMarked_6 v_count v_holder v_end v_marked Q n9) l2_6
def w_X10_somePartIsMarked (p1 : Int32) (v_count : Int32) (v_holder : Nat → Int32) (v_end : Nat → Int32) (v_marked : Nat → Bool) (Q : Int32 → Prop) : Prop :=
  w_X10_firstOf p1 v_count v_end (fun r_1 => ∃ k9 : Nat, w_X10_somePartIsMarked_6 v_count v_holder v_end v_marked Q k9 r_1)
set_option maxHeartbeats 4000000 in
set_option maxRecDepth 100000 in
theorem mt_X10_somePartIsMarked (l : Launch) (dC : Nat → ClassId) (dI : Nat → Nat → Nat) (h0 h1 h2 h3 h4 h5 h6 h7 h8 h9 h10 h11 h12 h13 h14 h15 h16 : Nat) (k0 k1 k2 : ClassId) (p1 : Int32) (v_there : Bool) (v_count : Int32) (v_captures : Int32) (v_ranges : Int32) (v_holder : Nat → Int32) (v_end : Nat → Int32) (v_marked : Nat → Bool) (Q : Int32 → Prop) (w : w_X10_somePartIsMarked p1 v_count v_holder v_end v_marked Q) (sz : Nat) : Met l yX10_somePartIsMarked (WS yX10_somePartIsMarked cX10_somePartIsMarked 3 (some (.boolean))) ({ frames := 1, cells := 0, slots := 0, locals := 22 } : Room) (va_Pc [.ref h0, .int p1] (fun U => U.heap.size = sz ∧ va_P (dC, dI) vwCl [(h0, .inr (13, oX10 v_there v_count v_captures v_ranges (.ref h4) (.ref h1) (.ref h2) (.ref h5) (.ref h6) (.ref h7) (.ref h8) (.ref h9) (.ref h10) (.ref h11) (.ref h12) (.ref h13) (.ref h14) (.ref h3) (.ref h15) (.ref h16))), (h1, .inl (k0, 256, .inl v_holder)), (h2, .inl (k1, 256, .inl v_end)), (h3, .inl (k2, 256, .inl (fun q9 => bz (v_marked q9))))] U.heap ∧ va_K (dC, dI) vwCl [(k0, .int), (k1, .int), (k2, .boolean)] U ∧ va_D (fun _ => True) [(h0, .inr (13, oX10 v_there v_count v_captures v_ranges (.ref h4) (.ref h1) (.ref h2) (.ref h5) (.ref h6) (.ref h7) (.ref h8) (.ref h9) (.ref h10) (.ref h11) (.ref h12) (.ref h13) (.ref h14) (.ref h3) (.ref h15) (.ref h16))), (h1, .inl (k0, 256, .inl v_holder)), (h2, .inl (k1, 256, .inl v_end)), (h3, .inl (k2, 256, .inl (fun q9 => bz (v_marked q9))))])) (va_Qi (fun (r u : Int32) => r = u) (fun (u : Int32) (t : State) => (Q u) ∧ va_P (dC, dI) vwCl [(h0, .inr (13, oX10 v_there v_count v_captures v_ranges (.ref h4) (.ref h1) (.ref h2) (.ref h5) (.ref h6) (.ref h7) (.ref h8) (.ref h9) (.ref h10) (.ref h11) (.ref h12) (.ref h13) (.ref h14) (.ref h3) (.ref h15) (.ref h16))), (h1, .inl (k0, 256, .inl v_holder)), (h2, .inl (k1, 256, .inl v_end)), (h3, .inl (k2, 256, .inl (fun q9 => bz (v_marked q9))))] t.heap ∧ va_D (va_A [(h0, .inr (13, oX10 v_there v_count v_captures v_ranges (.ref h4) (.ref h1) (.ref h2) (.ref h5) (.ref h6) (.ref h7) (.ref h8) (.ref h9) (.ref h10) (.ref h11) (.ref h12) (.ref h13) (.ref h14) (.ref h3) (.ref h15) (.ref h16))), (h1, .inl (k0, 256, .inl v_holder)), (h2, .inl (k1, 256, .inl v_end)), (h3, .inl (k2, 256, .inl (fun q9 => bz (v_marked q9))))] sz) [(h0, .inr (13, oX10 v_there v_count v_captures v_ranges (.ref h4) (.ref h1) (.ref h2) (.ref h5) (.ref h6) (.ref h7) (.ref h8) (.ref h9) (.ref h10) (.ref h11) (.ref h12) (.ref h13) (.ref h14) (.ref h3) (.ref h15) (.ref h16))), (h1, .inl (k0, 256, .inl v_holder)), (h2, .inl (k1, 256, .inl v_end)), (h3, .inl (k2, 256, .inl (fun q9 => bz (v_marked q9))))]) (va_A [(h0, .inr (13, oX10 v_there v_count v_captures v_ranges (.ref h4) (.ref h1) (.ref h2) (.ref h5) (.ref h6) (.ref h7) (.ref h8) (.ref h9) (.ref h10) (.ref h11) (.ref h12) (.ref h13) (.ref h14) (.ref h3) (.ref h15) (.ref h16))), (h1, .inl (k0, 256, .inl v_holder)), (h2, .inl (k1, 256, .inl v_end)), (h3, .inl (k2, 256, .inl (fun q9 => bz (v_marked q9))))] sz)) 0 0 (va_A [(h0, .inr (13, oX10 v_there v_count v_captures v_ranges (.ref h4) (.ref h1) (.ref h2) (.ref h5) (.ref h6) (.ref h7) (.ref h8) (.ref h9) (.ref h10) (.ref h11) (.ref h12) (.ref h13) (.ref h14) (.ref h3) (.ref h15) (.ref h16))), (h1, .inl (k0, 256, .inl v_holder)), (h2, .inl (k1, 256, .inl v_end)), (h3, .inl (k2, 256, .inl (fun q9 => bz (v_marked q9))))] sz) := by
  refine Met.ofW (cc := cX10_somePartIsMarked) (maxL := 3) (ret := (some (.boolean))) (by decide) rfl ?_
  intro p e s m args below meth c s₁ B hml hv
  obtain ⟨rfl, hsz, hP, hK, hD0⟩ := hv
  have hx := B.exec
  have hb := B.bytes
  have hr := B.returns
  have hts := atoms_spec (ws := WS yX10_somePartIsMarked cX10_somePartIsMarked 3 (some (.boolean))) B.pre
  have ht : ∀ w ∈ TW, w.before _ s = true := fun w h => hts w (List.mem_cons_of_mem _ h)
  have hown : s.vm.findClass "PatternWorkshop$Tree" = some m.cls := findClass_of_methodNamed B.named
  have hlocks := B.notSynchronized
  subst hsz
  have hD := hD0.self (sz := s.heap.size)
  generalize hAe : va_A [(h0, .inr (13, oX10 v_there v_count v_captures v_ranges (.ref h4) (.ref h1) (.ref h2) (.ref h5) (.ref h6) (.ref h7) (.ref h8) (.ref h9) (.ref h10) (.ref h11) (.ref h12) (.ref h13) (.ref h14) (.ref h3) (.ref h15) (.ref h16))), (h1, .inl (k0, 256, .inl v_holder)), (h2, .inl (k1, 256, .inl v_end)), (h3, .inl (k2, 256, .inl (fun q9 => bz (v_marked q9))))] s.heap.size = A at hD ⊢
  have hA : ∀ q : Nat, s.heap.size ≤ q → A q := fun q h => by rw [← hAe]; exact Or.inr h
  have hS : va_S A s.heap s.heap [] := va_S.rf
  have hP : va_P (dC, dI) vwCl [(h0, .inr (13, oX10 v_there v_count v_captures v_ranges (.ref h4) (.ref h1) (.ref h2) (.ref h5) (.ref h6) (.ref h7) (.ref h8) (.ref h9) (.ref h10) (.ref h11) (.ref h12) (.ref h13) (.ref h14) (.ref h3) (.ref h15) (.ref h16))), (h1, .inl (k0, 256, .inl v_holder)), (h2, .inl (k1, 256, .inl v_end)), (h3, .inl (k2, 256, .inl (fun q9 => bz (v_marked q9))))] s.heap := hP
  have hl := lv_entry ([.ref h0, .int p1]) (n := 3) (Nat.le_of_ble_eq_true rfl)
  rw [lg_entry_eq]
  generalize (lg_sl ([.ref h0, .int p1]) ++ List.replicate (3 - (lg_sl ([.ref h0, .int p1])).length) Slot.unset).toArray = ls at hl ⊢
  have hl : lv_has ls 3 [(0, .ref h0), (1, .int p1)] := hl
  clear hD0
  obtain ⟨QQ, hQQ⟩ : ∃ QQ, QQ = MQ below (va_Qi (fun (r u : Int32) => r = u) (fun (u : Int32) (t : State) => (Q u) ∧ va_P (dC, dI) vwCl [(h0, .inr (13, oX10 v_there v_count v_captures v_ranges (.ref h4) (.ref h1) (.ref h2) (.ref h5) (.ref h6) (.ref h7) (.ref h8) (.ref h9) (.ref h10) (.ref h11) (.ref h12) (.ref h13) (.ref h14) (.ref h3) (.ref h15) (.ref h16))), (h1, .inl (k0, 256, .inl v_holder)), (h2, .inl (k1, 256, .inl v_end)), (h3, .inl (k2, 256, .inl (fun q9 => bz (v_marked q9))))] t.heap ∧ va_D A [(h0, .inr (13, oX10 v_there v_count v_captures v_ranges (.ref h4) (.ref h1) (.ref h2) (.ref h5) (.ref h6) (.ref h7) (.ref h8) (.ref h9) (.ref h10) (.ref h11) (.ref h12) (.ref h13) (.ref h14) (.ref h3) (.ref h15) (.ref h16))), (h1, .inl (k0, 256, .inl v_holder)), (h2, .inl (k1, 256, .inl v_end)), (h3, .inl (k2, 256, .inl (fun q9 => bz (v_marked q9))))]) A) ([.ref h0, .int p1]).toArray s 0 0 A := ⟨_, rfl⟩
  show W p l e ({ frames := 1, cells := 0, slots := 0, locals := 22 } : Room) s m ([.ref h0, .int p1]).toArray below meth c s.heap [] 0 0 (MQ below (va_Qi (fun (r u : Int32) => r = u) (fun (u : Int32) (t : State) => (Q u) ∧ va_P (dC, dI) vwCl [(h0, .inr (13, oX10 v_there v_count v_captures v_ranges (.ref h4) (.ref h1) (.ref h2) (.ref h5) (.ref h6) (.ref h7) (.ref h8) (.ref h9) (.ref h10) (.ref h11) (.ref h12) (.ref h13) (.ref h14) (.ref h3) (.ref h15) (.ref h16))), (h1, .inl (k0, 256, .inl v_holder)), (h2, .inl (k1, 256, .inl v_end)), (h3, .inl (k2, 256, .inl (fun q9 => bz (v_marked q9))))] t.heap ∧ va_D A [(h0, .inr (13, oX10 v_there v_count v_captures v_ranges (.ref h4) (.ref h1) (.ref h2) (.ref h5) (.ref h6) (.ref h7) (.ref h8) (.ref h9) (.ref h10) (.ref h11) (.ref h12) (.ref h13) (.ref h14) (.ref h3) (.ref h15) (.ref h16))), (h1, .inl (k0, 256, .inl v_holder)), (h2, .inl (k1, 256, .inl v_end)), (h3, .inl (k2, 256, .inl (fun q9 => bz (v_marked q9))))]) A) ([.ref h0, .int p1]).toArray s 0 0 A) (F0 m 0 ls [])
  rw [← hQQ]
  unfold w_X10_somePartIsMarked at w
  refine lv_aload_n hx hb dX10_somePartIsMarked_0 rfl (lv_at hl 0 rfl) ?_
  refine lv_iload_n hx hb dX10_somePartIsMarked_1 rfl (lv_at hl 1 rfl) ?_
  have hPc_1 := hP.sub (ws' := [(h0, .inr (13, oX10 v_there v_count v_captures v_ranges (.ref h4) (.ref h1) (.ref h2) (.ref h5) (.ref h6) (.ref h7) (.ref h8) (.ref h9) (.ref h10) (.ref h11) (.ref h12) (.ref h13) (.ref h14) (.ref h3) (.ref h15) (.ref h16))), (h2, .inl (k1, 256, .inl v_end))]) [0, 2] rfl
  have hDc_1 := hD.sub (ws' := [(h0, .inr (13, oX10 v_there v_count v_captures v_ranges (.ref h4) (.ref h1) (.ref h2) (.ref h5) (.ref h6) (.ref h7) (.ref h8) (.ref h9) (.ref h10) (.ref h11) (.ref h12) (.ref h13) (.ref h14) (.ref h3) (.ref h15) (.ref h16))), (h2, .inl (k1, 256, .inl v_end))]) [0, 2] (by decide) rfl
  have hKc_1 := hK.sub (tys' := [(k1, .int)]) [1] rfl
  have hFc_1 := va_free (wc := [(h0, .inr (13, oX10 v_there v_count v_captures v_ranges (.ref h4) (.ref h1) (.ref h2) (.ref h5) (.ref h6) (.ref h7) (.ref h8) (.ref h9) (.ref h10) (.ref h11) (.ref h12) (.ref h13) (.ref h14) (.ref h3) (.ref h15) (.ref h16))), (h2, .inl (k1, 256, .inl v_end))]) hD hS hA [0, 2] rfl
  refine va_calli (va_runV (As := [.int p1]) (rest := []) ⟨hx, hb, hml, hown, ht⟩ (mt_X10_firstOf l dC dI h0 h2 h4 h1 h5 h6 h7 h8 h9 h10 h11 h12 h13 h14 h3 h15 h16 k1 p1 v_there v_count v_captures v_ranges v_end _ w s.heap.size) (cwV 1 ht (goodV tw_1089 tw_1090 tw_1091 tw_240 gw_X10_firstOf) rfl rfl rfl (by decide +kernel) ⟨Nat.le_of_ble_eq_true rfl, Nat.le_of_ble_eq_true rfl⟩) ⟨fun a U g mk q => by obtain ⟨q0, q1, qP, qK, qD⟩ := q; exact ⟨q0, q1, qP, va_K.moved (u := U) (U := U.calling g mk a) (Vm.Alike.refl U.vm) qK, qD⟩, va_recv hKc_1 hPc_1 (ci := 13) (q0 := 0) rfl rfl, fun U hU hW => ⟨rfl, by rw [hU], by rw [hU]; exact hPc_1, va_K.moved hW.alike hKc_1, hDc_1.weaken (fun _ _ _ _ => trivial)⟩⟩ rfl rfl hl.1 rfl (lv_room (Nat.le_of_ble_eq_true rfl)) dX10_somePartIsMarked_2 ⟨Nat.le_of_ble_eq_true rfl, Nat.le_of_ble_eq_true rfl⟩) hS (fun q _ h => hFc_1 q h) hFc_1 (fun r_1 u_1 t_1 H_1 locs_1 ht_1 hvm_1 hw_1 hB_1 hz_1 hk_1 hS_1 => ?_)
  subst hw_1
  obtain ⟨w_1, hP1_1, hD1_1⟩ := hB_1
  rw [ht_1] at hP1_1
  obtain ⟨hP_1, hD_1⟩ := va_join (wr := [(h1, .inl (k0, 256, .inl v_holder)), (h3, .inl (k2, 256, .inl (fun q9 => bz (v_marked q9))))]) (w1 := [(h0, .inr (13, oX10 v_there v_count v_captures v_ranges (.ref h4) (.ref h1) (.ref h2) (.ref h5) (.ref h6) (.ref h7) (.ref h8) (.ref h9) (.ref h10) (.ref h11) (.ref h12) (.ref h13) (.ref h14) (.ref h3) (.ref h15) (.ref h16))), (h2, .inl (k1, 256, .inl v_end))]) hP hD [0, 2] [1, 3] rfl rfl (by decide) (by decide) hk_1 hFc_1 hP1_1 hD1_1
  have hP_1 := hP_1.sub (ws' := [(h0, .inr (13, oX10 v_there v_count v_captures v_ranges (.ref h4) (.ref h1) (.ref h2) (.ref h5) (.ref h6) (.ref h7) (.ref h8) (.ref h9) (.ref h10) (.ref h11) (.ref h12) (.ref h13) (.ref h14) (.ref h3) (.ref h15) (.ref h16))), (h1, .inl (k0, 256, .inl v_holder)), (h2, .inl (k1, 256, .inl v_end)), (h3, .inl (k2, 256, .inl (fun q9 => bz (v_marked q9))))]) [2, 0, 3, 1] rfl
  have hD_1 := hD_1.sub (ws' := [(h0, .inr (13, oX10 v_there v_count v_captures v_ranges (.ref h4) (.ref h1) (.ref h2) (.ref h5) (.ref h6) (.ref h7) (.ref h8) (.ref h9) (.ref h10) (.ref h11) (.ref h12) (.ref h13) (.ref h14) (.ref h3) (.ref h15) (.ref h16))), (h1, .inl (k0, 256, .inl v_holder)), (h2, .inl (k1, 256, .inl v_end)), (h3, .inl (k2, 256, .inl (fun q9 => bz (v_marked q9))))]) [2, 0, 3, 1] (by decide) rfl
  clear hPc_1 hDc_1 hKc_1 hFc_1 hP1_1 hD1_1 hk_1 hz_1
  refine lv_istore_n (lv' := [(2, .int r_1), (0, .ref h0), (1, .int p1)]) hx hb dX10_somePartIsMarked_5 rfl hl (by decide) rfl (fun ls_2 hl_2 => ?_)
  clear hl
  have k_6 : ∀ n_6 : Nat, ∀ (l2_6 : Int32), ∀ (H_b6 : Heap) (locs_b6 : List Loc) (ls_b6 : Array Slot), w_X10_somePartIsMarked_6 v_count v_holder v_end v_marked Q n_6 l2_6 → va_P (dC, dI) vwCl [(h0, .inr (13, oX10 v_there v_count v_captures v_ranges (.ref h4) (.ref h1) (.ref h2) (.ref h5) (.ref h6) (.ref h7) (.ref h8) (.ref h9) (.ref h10) (.ref h11) (.ref h12) (.ref h13) (.ref h14) (.ref h3) (.ref h15) (.ref h16))), (h1, .inl (k0, 256, .inl v_holder)), (h2, .inl (k1, 256, .inl v_end)), (h3, .inl (k2, 256, .inl (fun q9 => bz (v_marked q9))))] H_b6 → va_D A [(h0, .inr (13, oX10 v_there v_count v_captures v_ranges (.ref h4) (.ref h1) (.ref h2) (.ref h5) (.ref h6) (.ref h7) (.ref h8) (.ref h9) (.ref h10) (.ref h11) (.ref h12) (.ref h13) (.ref h14) (.ref h3) (.ref h15) (.ref h16))), (h1, .inl (k0, 256, .inl v_holder)), (h2, .inl (k1, 256, .inl v_end)), (h3, .inl (k2, 256, .inl (fun q9 => bz (v_marked q9))))] → va_S A s.heap H_b6 locs_b6 → lv_has ls_b6 3 [(0, .ref h0), (2, .int l2_6)] → W p l e ({ frames := 1, cells := 0, slots := 0, locals := 22 } : Room) s m ([.ref h0, .int p1]).toArray below meth c H_b6 locs_b6 0 0 QQ (F0 m 6 ls_b6 []) := by
    intro n_6
    induction n_6 with
    | zero =>
      intro l2_6 H_b6 locs_b6 ls_b6 w_b6 hP_b6 hD_b6 hS_b6 hl_b6
      exact False.elim (by unfold w_X10_somePartIsMarked_6 at w_b6; exact w_b6)
    | succ n_6 ih_6 =>
      intro l2_6 H_b6 locs_b6 ls_b6 w_b6 hP_b6 hD_b6 hS_b6 hl_b6
      unfold w_X10_somePartIsMarked_6 at w_b6
      unfold w_X10_somePartIsMarked_6B at w_b6
      refine lv_aload_n hx hb dX10_somePartIsMarked_6 rfl (lv_at hl_b6 0 rfl) ?_
      refine lv_iload_n hx hb dX10_somePartIsMarked_7 rfl (lv_at hl_b6 1 rfl) ?_
      have hPc_3 := hP_b6.sub (ws' := [(h0, .inr (13, oX10 v_there v_count v_captures v_ranges (.ref h4) (.ref h1) (.ref h2) (.ref h5) (.ref h6) (.ref h7) (.ref h8) (.ref h9) (.ref h10) (.ref h11) (.ref h12) (.ref h13) (.ref h14) (.ref h3) (.ref h15) (.ref h16)))]) [0] rfl
      have hDc_3 := hD_b6.sub (ws' := [(h0, .inr (13, oX10 v_there v_count v_captures v_ranges (.ref h4) (.ref h1) (.ref h2) (.ref h5) (.ref h6) (.ref h7) (.ref h8) (.ref h9) (.ref h10) (.ref h11) (.ref h12) (.ref h13) (.ref h14) (.ref h3) (.ref h15) (.ref h16)))]) [0] (by decide) rfl
      have hKc_3 := hK.sub (tys' := []) [] rfl
      have hFc_3 := va_free (wc := [(h0, .inr (13, oX10 v_there v_count v_captures v_ranges (.ref h4) (.ref h1) (.ref h2) (.ref h5) (.ref h6) (.ref h7) (.ref h8) (.ref h9) (.ref h10) (.ref h11) (.ref h12) (.ref h13) (.ref h14) (.ref h3) (.ref h15) (.ref h16)))]) hD_b6 hS_b6 hA [0] rfl
      refine va_calli (va_runV (As := [.int l2_6]) (rest := []) ⟨hx, hb, hml, hown, ht⟩ (mt_X10_has l dC dI h0 h4 h1 h2 h5 h6 h7 h8 h9 h10 h11 h12 h13 h14 h3 h15 h16 l2_6 v_there v_count v_captures v_ranges _ w_b6 H_b6.size) (cwV 1 ht (goodV tw_1069 tw_1070 tw_1071 tw_240 gw_X10_has) rfl rfl rfl (by decide +kernel) ⟨Nat.le_of_ble_eq_true rfl, Nat.le_of_ble_eq_true rfl⟩) ⟨fun a U g mk q => by obtain ⟨q0, q1, qP, qK, qD⟩ := q; exact ⟨q0, q1, qP, va_K.moved (u := U) (U := U.calling g mk a) (Vm.Alike.refl U.vm) qK, qD⟩, va_recv hKc_3 hPc_3 (ci := 13) (q0 := 0) rfl rfl, fun U hU hW => ⟨rfl, by rw [hU], by rw [hU]; exact hPc_3, va_K.moved hW.alike hKc_3, hDc_3.weaken (fun _ _ _ _ => trivial)⟩⟩ rfl rfl hl_b6.1 rfl (lv_room (Nat.le_of_ble_eq_true rfl)) dX10_somePartIsMarked_8 ⟨Nat.le_of_ble_eq_true rfl, Nat.le_of_ble_eq_true rfl⟩) hS_b6 (fun q _ h => hFc_3 q h) hFc_3 (fun r_3 u_3 t_3 H_3 locs_3 ht_3 hvm_3 hw_3 hB_3 hz_3 hk_3 hS_3 => ?_)
      subst hw_3
      obtain ⟨w_3, hP1_3, hD1_3⟩ := hB_3
      rw [ht_3] at hP1_3
      obtain ⟨hP_3, hD_3⟩ := va_join (wr := [(h1, .inl (k0, 256, .inl v_holder)), (h2, .inl (k1, 256, .inl v_end)), (h3, .inl (k2, 256, .inl (fun q9 => bz (v_marked q9))))]) (w1 := [(h0, .inr (13, oX10 v_there v_count v_captures v_ranges (.ref h4) (.ref h1) (.ref h2) (.ref h5) (.ref h6) (.ref h7) (.ref h8) (.ref h9) (.ref h10) (.ref h11) (.ref h12) (.ref h13) (.ref h14) (.ref h3) (.ref h15) (.ref h16)))]) hP_b6 hD_b6 [0] [1, 2, 3] rfl rfl (by decide) (by decide) hk_3 hFc_3 hP1_3 hD1_3
      have hP_3 := hP_3.sub (ws' := [(h0, .inr (13, oX10 v_there v_count v_captures v_ranges (.ref h4) (.ref h1) (.ref h2) (.ref h5) (.ref h6) (.ref h7) (.ref h8) (.ref h9) (.ref h10) (.ref h11) (.ref h12) (.ref h13) (.ref h14) (.ref h3) (.ref h15) (.ref h16))), (h1, .inl (k0, 256, .inl v_holder)), (h2, .inl (k1, 256, .inl v_end)), (h3, .inl (k2, 256, .inl (fun q9 => bz (v_marked q9))))]) [3, 0, 1, 2] rfl
      have hD_3 := hD_3.sub (ws' := [(h0, .inr (13, oX10 v_there v_count v_captures v_ranges (.ref h4) (.ref h1) (.ref h2) (.ref h5) (.ref h6) (.ref h7) (.ref h8) (.ref h9) (.ref h10) (.ref h11) (.ref h12) (.ref h13) (.ref h14) (.ref h3) (.ref h15) (.ref h16))), (h1, .inl (k0, 256, .inl v_holder)), (h2, .inl (k1, 256, .inl v_end)), (h3, .inl (k2, 256, .inl (fun q9 => bz (v_marked q9))))]) [3, 0, 1, 2] (by decide) rfl
      clear hPc_3 hDc_3 hKc_3 hFc_3 hP1_3 hD1_3 hk_3 hz_3
      refine lv_if_eq (tgt := 34) hx hb dX10_somePartIsMarked_11 (by decide) (fun c_4 => ?_) (fun c_4 => ?_)
      · refine lv_iconst (v := 0) hx hb dX10_somePartIsMarked_34 (by decide) ?_
        rw [hQQ]
        exact W.zret (v := 0) hx hb hr rfl (fun t9 ht9 hW9 => ⟨⟨0, 0, rfl, rfl, ⟨w_3.1 c_4, by rw [ht9]; exact hP_3, hD_3⟩⟩, hS_3.F ht9⟩) hS_3.2.2 dX10_somePartIsMarked_35
      · refine lv_aload_n hx hb dX10_somePartIsMarked_14 rfl (lv_at hl_b6 0 rfl) ?_
        refine va_get (D := (dC, dI)) (ci := 13) (v := .ref h3) (C := RX10) (T := TX10) (N := 20) hx hb ht inX10 hown hK hP_3 0 rfl rfl 17 (by decide) (ht _ tw_340) (fun _ h9 => h9) rfl dX10_somePartIsMarked_15 ?_
        refine lv_iload_n hx hb dX10_somePartIsMarked_18 rfl (lv_at hl_b6 1 rfl) ?_
        refine va_zald hx hb hK hP_3 3 2 rfl rfl (i := l2_6) (w_3.2 c_4).1 dX10_somePartIsMarked_19 ?_
        refine lv_topi (fun x_5 ex_5 => ?_)
        have ex_5 : x_5 = bz (v_marked l2_6.toNatClampNeg) := ex_5
        refine lv_if_eq (tgt := 25) hx hb dX10_somePartIsMarked_20 (by decide) (fun c_6 => ?_) (fun c_6 => ?_)
        · refine lv_aload_n hx hb dX10_somePartIsMarked_25 rfl (lv_at hl_b6 0 rfl) ?_
          refine lv_iload_n hx hb dX10_somePartIsMarked_26 rfl (lv_at hl_b6 1 rfl) ?_
          have hPc_7 := hP_3.sub (ws' := [(h0, .inr (13, oX10 v_there v_count v_captures v_ranges (.ref h4) (.ref h1) (.ref h2) (.ref h5) (.ref h6) (.ref h7) (.ref h8) (.ref h9) (.ref h10) (.ref h11) (.ref h12) (.ref h13) (.ref h14) (.ref h3) (.ref h15) (.ref h16))), (h1, .inl (k0, 256, .inl v_holder)), (h2, .inl (k1, 256, .inl v_end))]) [0, 1, 2] rfl
          have hDc_7 := hD_3.sub (ws' := [(h0, .inr (13, oX10 v_there v_count v_captures v_ranges (.ref h4) (.ref h1) (.ref h2) (.ref h5) (.ref h6) (.ref h7) (.ref h8) (.ref h9) (.ref h10) (.ref h11) (.ref h12) (.ref h13) (.ref h14) (.ref h3) (.ref h15) (.ref h16))), (h1, .inl (k0, 256, .inl v_holder)), (h2, .inl (k1, 256, .inl v_end))]) [0, 1, 2] (by decide) rfl
          have hKc_7 := hK.sub (tys' := [(k0, .int), (k1, .int)]) [0, 1] rfl
          have hFc_7 := va_free (wc := [(h0, .inr (13, oX10 v_there v_count v_captures v_ranges (.ref h4) (.ref h1) (.ref h2) (.ref h5) (.ref h6) (.ref h7) (.ref h8) (.ref h9) (.ref h10) (.ref h11) (.ref h12) (.ref h13) (.ref h14) (.ref h3) (.ref h15) (.ref h16))), (h1, .inl (k0, 256, .inl v_holder)), (h2, .inl (k1, 256, .inl v_end))]) hD_3 hS_3 hA [0, 1, 2] rfl
          refine va_calli (va_runV (As := [.int l2_6]) (rest := []) ⟨hx, hb, hml, hown, ht⟩ (mt_X10_nextOf l dC dI h0 h1 h2 h4 h5 h6 h7 h8 h9 h10 h11 h12 h13 h14 h3 h15 h16 k0 k1 l2_6 v_there v_count v_captures v_ranges v_holder v_end _ ((((w_3.2 c_4).2) x_5 ex_5).1 c_6) H_3.size) (cwV 1 ht (goodV tw_1093 tw_1094 tw_1095 tw_240 gw_X10_nextOf) rfl rfl rfl (by decide +kernel) ⟨Nat.le_of_ble_eq_true rfl, Nat.le_of_ble_eq_true rfl⟩) ⟨fun a U g mk q => by obtain ⟨q0, q1, qP, qK, qD⟩ := q; exact ⟨q0, q1, qP, va_K.moved (u := U) (U := U.calling g mk a) (Vm.Alike.refl U.vm) qK, qD⟩, va_recv hKc_7 hPc_7 (ci := 13) (q0 := 0) rfl rfl, fun U hU hW => ⟨rfl, by rw [hU], by rw [hU]; exact hPc_7, va_K.moved hW.alike hKc_7, hDc_7.weaken (fun _ _ _ _ => trivial)⟩⟩ rfl rfl hl_b6.1 rfl (lv_room (Nat.le_of_ble_eq_true rfl)) dX10_somePartIsMarked_27 ⟨Nat.le_of_ble_eq_true rfl, Nat.le_of_ble_eq_true rfl⟩) hS_3 (fun q _ h => hFc_7 q h) hFc_7 (fun r_7 u_7 t_7 H_7 locs_7 ht_7 hvm_7 hw_7 hB_7 hz_7 hk_7 hS_7 => ?_)
          subst hw_7
          obtain ⟨w_7, hP1_7, hD1_7⟩ := hB_7
          rw [ht_7] at hP1_7
          obtain ⟨hP_7, hD_7⟩ := va_join (wr := [(h3, .inl (k2, 256, .inl (fun q9 => bz (v_marked q9))))]) (w1 := [(h0, .inr (13, oX10 v_there v_count v_captures v_ranges (.ref h4) (.ref h1) (.ref h2) (.ref h5) (.ref h6) (.ref h7) (.ref h8) (.ref h9) (.ref h10) (.ref h11) (.ref h12) (.ref h13) (.ref h14) (.ref h3) (.ref h15) (.ref h16))), (h1, .inl (k0, 256, .inl v_holder)), (h2, .inl (k1, 256, .inl v_end))]) hP_3 hD_3 [0, 1, 2] [3] rfl rfl (by decide) (by decide) hk_7 hFc_7 hP1_7 hD1_7
          have hP_7 := hP_7.sub (ws' := [(h0, .inr (13, oX10 v_there v_count v_captures v_ranges (.ref h4) (.ref h1) (.ref h2) (.ref h5) (.ref h6) (.ref h7) (.ref h8) (.ref h9) (.ref h10) (.ref h11) (.ref h12) (.ref h13) (.ref h14) (.ref h3) (.ref h15) (.ref h16))), (h1, .inl (k0, 256, .inl v_holder)), (h2, .inl (k1, 256, .inl v_end)), (h3, .inl (k2, 256, .inl (fun q9 => bz (v_marked q9))))]) [1, 2, 3, 0] rfl
          have hD_7 := hD_7.sub (ws' := [(h0, .inr (13, oX10 v_there v_count v_captures v_ranges (.ref h4) (.ref h1) (.ref h2) (.ref h5) (.ref h6) (.ref h7) (.ref h8) (.ref h9) (.ref h10) (.ref h11) (.ref h12) (.ref h13) (.ref h14) (.ref h3) (.ref h15) (.ref h16))), (h1, .inl (k0, 256, .inl v_holder)), (h2, .inl (k1, 256, .inl v_end)), (h3, .inl (k2, 256, .inl (fun q9 => bz (v_marked q9))))]) [1, 2, 3, 0] (by decide) rfl
          clear hPc_7 hDc_7 hKc_7 hFc_7 hP1_7 hD1_7 hk_7 hz_7
          refine lv_istore_n (lv' := [(2, .int r_7), (0, .ref h0)]) hx hb dX10_somePartIsMarked_30 rfl hl_b6 (by decide) rfl (fun ls_8 hl_8 => ?_)
          clear hl_b6
          refine lv_goto (tgt := 6) hx hb dX10_somePartIsMarked_31 (by decide) ?_
          exact ih_6 r_7 _ _ _ w_7 hP_7 hD_7 hS_7 (lv_sub hl_8 [1, 0] rfl)
        · refine lv_iconst (v := 1) hx hb dX10_somePartIsMarked_23 (by decide) ?_
          rw [hQQ]
          exact W.zret (v := 1) hx hb hr rfl (fun t9 ht9 hW9 => ⟨⟨1, 1, rfl, rfl, ⟨(((w_3.2 c_4).2) x_5 ex_5).2 c_6, by rw [ht9]; exact hP_3, hD_3⟩⟩, hS_3.F ht9⟩) hS_3.2.2 dX10_somePartIsMarked_24
  obtain ⟨n_9, w_9⟩ := w_1
  exact k_6 n_9 r_1 _ _ _ w_9 hP_1 hD_1 hS_1 (lv_sub hl_2 [1, 0] rfl)
def w_X10_rowBegins_32 (v_marked : Nat → Bool) (Q : Int32 → Prop) (l2_32 : Int32) : Prop :=
  vp_in l2_32 256 ∧ ∀ x_6 : Int32, x_6 = bz (v_marked l2_32.toNatClampNeg) → (x_6 = 0 ∨ x_6 = 1) ∧ Q x_6
def w_X10_rowBegins_6B (v_count : Int32) (v_holder : Nat → Int32) (v_end : Nat → Int32) (v_mayBeEmpty : Nat → Bool) (v_marked : Nat → Bool) (Q : Int32 → Prop) (K6 : Int32 → Prop) (l2_6 : Int32) : Prop :=
  w_X10_has l2_6 v_count (fun r_3 => ((r_3 = 0) → Q 0) ∧ ((¬ r_3 = 0) → vp_in l2_6 256 ∧ ∀ x_5 : Int32, x_5 = bz (v_marked l2_6.toNatClampNeg) → ((¬ x_5 = 0) → w_X10_rowBegins_32 v_marked Q l2_6) ∧ ((x_5 = 0) → vp_in l2_6 256 ∧ ∀ x_8 : Int32, x_8 = bz (v_mayBeEmpty l2_6.toNatClampNeg) → ((¬ x_8 = 0) → w_X10_nextOf l2_6 v_count v_holder v_end (fun r_11 => K6 r_11)) ∧ ((x_8 = 0) → w_X10_rowBegins_32 v_marked Q l2_6))))
def w_X10_rowBegins_6 (v_count : Int32) (v_holder : Nat → Int32) (v_end : Nat → Int32) (v_mayBeEmpty : Nat → Bool) (v_marked : Nat → Bool) (Q : Int32 → Prop) : Nat → Int32 → Prop
  | 0, _ => False
  | n9 + 1, l2_6 => w_X10_rowBegins_6B v_count v_holder v_end v_mayBeEmpty v_marked Q (w_X10_rowBegins_6 v_count v_holder v_end v_mayBeEmpty v_marked Q n9) l2_6
def w_X10_rowBegins (p1 : Int32) (v_count : Int32) (v_holder : Nat → Int32) (v_end : Nat → Int32) (v_mayBeEmpty : Nat → Bool) (v_marked : Nat → Bool) (Q : Int32 → Prop) : Prop :=
  w_X10_firstOf p1 v_count v_end (fun r_1 => ∃ k9 : Nat, w_X10_rowBegins_6 v_count v_holder v_end v_mayBeEmpty v_marked Q k9 r_1)
set_option maxHeartbeats 4000000 in
set_option maxRecDepth 100000 in
theorem mt_X10_rowBegins (l : Launch) (dC : Nat → ClassId) (dI : Nat → Nat → Nat) (h0 h1 h2 h3 h4 h5 h6 h7 h8 h9 h10 h11 h12 h13 h14 h15 h16 : Nat) (k0 k1 k2 k3 : ClassId) (p1 : Int32) (v_there : Bool) (v_count : Int32) (v_captures : Int32) (v_ranges : Int32) (v_holder : Nat → Int32) (v_end : Nat → Int32) (v_mayBeEmpty : Nat → Bool) (v_marked : Nat → Bool) (Q : Int32 → Prop) (w : w_X10_rowBegins p1 v_count v_holder v_end v_mayBeEmpty v_marked Q) (sz : Nat) : Met l yX10_rowBegins (WS yX10_rowBegins cX10_rowBegins 3 (some (.boolean))) ({ frames := 1, cells := 0, slots := 0, locals := 22 } : Room) (va_Pc [.ref h0, .int p1] (fun U => U.heap.size = sz ∧ va_P (dC, dI) vwCl [(h0, .inr (13, oX10 v_there v_count v_captures v_ranges (.ref h5) (.ref h1) (.ref h2) (.ref h6) (.ref h7) (.ref h8) (.ref h9) (.ref h10) (.ref h11) (.ref h12) (.ref h13) (.ref h3) (.ref h14) (.ref h4) (.ref h15) (.ref h16))), (h1, .inl (k0, 256, .inl v_holder)), (h2, .inl (k1, 256, .inl v_end)), (h3, .inl (k2, 256, .inl (fun q9 => bz (v_mayBeEmpty q9)))), (h4, .inl (k3, 256, .inl (fun q9 => bz (v_marked q9))))] U.heap ∧ va_K (dC, dI) vwCl [(k0, .int), (k1, .int), (k2, .boolean), (k3, .boolean)] U ∧ va_D (fun _ => True) [(h0, .inr (13, oX10 v_there v_count v_captures v_ranges (.ref h5) (.ref h1) (.ref h2) (.ref h6) (.ref h7) (.ref h8) (.ref h9) (.ref h10) (.ref h11) (.ref h12) (.ref h13) (.ref h3) (.ref h14) (.ref h4) (.ref h15) (.ref h16))), (h1, .inl (k0, 256, .inl v_holder)), (h2, .inl (k1, 256, .inl v_end)), (h3, .inl (k2, 256, .inl (fun q9 => bz (v_mayBeEmpty q9)))), (h4, .inl (k3, 256, .inl (fun q9 => bz (v_marked q9))))])) (va_Qi (fun (r u : Int32) => r = u) (fun (u : Int32) (t : State) => (Q u) ∧ va_P (dC, dI) vwCl [(h0, .inr (13, oX10 v_there v_count v_captures v_ranges (.ref h5) (.ref h1) (.ref h2) (.ref h6) (.ref h7) (.ref h8) (.ref h9) (.ref h10) (.ref h11) (.ref h12) (.ref h13) (.ref h3) (.ref h14) (.ref h4) (.ref h15) (.ref h16))), (h1, .inl (k0, 256, .inl v_holder)), (h2, .inl (k1, 256, .inl v_end)), (h3, .inl (k2, 256, .inl (fun q9 => bz (v_mayBeEmpty q9)))), (h4, .inl (k3, 256, .inl (fun q9 => bz (v_marked q9))))] t.heap ∧ va_D (va_A [(h0, .inr (13, oX10 v_there v_count v_captures v_ranges (.ref h5) (.ref h1) (.ref h2) (.ref h6) (.ref h7) (.ref h8) (.ref h9) (.ref h10) (.ref h11) (.ref h12) (.ref h13) (.ref h3) (.ref h14) (.ref h4) (.ref h15) (.ref h16))), (h1, .inl (k0, 256, .inl v_holder)), (h2, .inl (k1, 256, .inl v_end)), (h3, .inl (k2, 256, .inl (fun q9 => bz (v_mayBeEmpty q9)))), (h4, .inl (k3, 256, .inl (fun q9 => bz (v_marked q9))))] sz) [(h0, .inr (13, oX10 v_there v_count v_captures v_ranges (.ref h5) (.ref h1) (.ref h2) (.ref h6) (.ref h7) (.ref h8) (.ref h9) (.ref h10) (.ref h11) (.ref h12) (.ref h13) (.ref h3) (.ref h14) (.ref h4) (.ref h15) (.ref h16))), (h1, .inl (k0, 256, .inl v_holder)), (h2, .inl (k1, 256, .inl v_end)), (h3, .inl (k2, 256, .inl (fun q9 => bz (v_mayBeEmpty q9)))), (h4, .inl (k3, 256, .inl (fun q9 => bz (v_marked q9))))]) (va_A [(h0, .inr (13, oX10 v_there v_count v_captures v_ranges (.ref h5) (.ref h1) (.ref h2) (.ref h6) (.ref h7) (.ref h8) (.ref h9) (.ref h10) (.ref h11) (.ref h12) (.ref h13) (.ref h3) (.ref h14) (.ref h4) (.ref h15) (.ref h16))), (h1, .inl (k0, 256, .inl v_holder)), (h2, .inl (k1, 256, .inl v_end)), (h3, .inl (k2, 256, .inl (fun q9 => bz (v_mayBeEmpty q9)))), (h4, .inl (k3, 256, .inl (fun q9 => bz (v_marked q9))))] sz)) 0 0 (va_A [(h0, .inr (13, oX10 v_there v_count v_captures v_ranges (.ref h5) (.ref h1) (.ref h2) (.ref h6) (.ref h7) (.ref h8) (.ref h9) (.ref h10) (.ref h11) (.ref h12) (.ref h13) (.ref h3) (.ref h14) (.ref h4) (.ref h15) (.ref h16))), (h1, .inl (k0, 256, .inl v_holder)), (h2, .inl (k1, 256, .inl v_end)), (h3, .inl (k2, 256, .inl (fun q9 => bz (v_mayBeEmpty q9)))), (h4, .inl (k3, 256, .inl (fun q9 => bz (v_marked q9))))] sz) := by
  refine Met.ofW (cc := cX10_rowBegins) (maxL := 3) (ret := (some (.boolean))) (by decide) rfl ?_
  intro p e s m args below meth c s₁ B hml hv
  obtain ⟨rfl, hsz, hP, hK, hD0⟩ := hv
  have hx := B.exec
  have hb := B.bytes
  have hr := B.returns
  have hts := atoms_spec (ws := WS yX10_rowBegins cX10_rowBegins 3 (some (.boolean))) B.pre
  have ht : ∀ w ∈ TW, w.before _ s = true := fun w h => hts w (List.mem_cons_of_mem _ h)
  have hown : s.vm.findClass "PatternWorkshop$Tree" = some m.cls := findClass_of_methodNamed B.named
  have hlocks := B.notSynchronized
  subst hsz
  have hD := hD0.self (sz := s.heap.size)
  generalize hAe : va_A [(h0, .inr (13, oX10 v_there v_count v_captures v_ranges (.ref h5) (.ref h1) (.ref h2) (.ref h6) (.ref h7) (.ref h8) (.ref h9) (.ref h10) (.ref h11) (.ref h12) (.ref h13) (.ref h3) (.ref h14) (.ref h4) (.ref h15) (.ref h16))), (h1, .inl (k0, 256, .inl v_holder)), (h2, .inl (k1, 256, .inl v_end)), (h3, .inl (k2, 256, .inl (fun q9 => bz (v_mayBeEmpty q9)))), (h4, .inl (k3, 256, .inl (fun q9 => bz (v_marked q9))))] s.heap.size = A at hD ⊢
  have hA : ∀ q : Nat, s.heap.size ≤ q → A q := fun q h => by rw [← hAe]; exact Or.inr h
  have hS : va_S A s.heap s.heap [] := va_S.rf
  have hP : va_P (dC, dI) vwCl [(h0, .inr (13, oX10 v_there v_count v_captures v_ranges (.ref h5) (.ref h1) (.ref h2) (.ref h6) (.ref h7) (.ref h8) (.ref h9) (.ref h10) (.ref h11) (.ref h12) (.ref h13) (.ref h3) (.ref h14) (.ref h4) (.ref h15) (.ref h16))), (h1, .inl (k0, 256, .inl v_holder)), (h2, .inl (k1, 256, .inl v_end)), (h3, .inl (k2, 256, .inl (fun q9 => bz (v_mayBeEmpty q9)))), (h4, .inl (k3, 256, .inl (fun q9 => bz (v_marked q9))))] s.heap := hP
  have hl := lv_entry ([.ref h0, .int p1]) (n := 3) (Nat.le_of_ble_eq_true rfl)
  rw [lg_entry_eq]
  generalize (lg_sl ([.ref h0, .int p1]) ++ List.replicate (3 - (lg_sl ([.ref h0, .int p1])).length) Slot.unset).toArray = ls at hl ⊢
  have hl : lv_has ls 3 [(0, .ref h0), (1, .int p1)] := hl
  clear hD0
  obtain ⟨QQ, hQQ⟩ : ∃ QQ, QQ = MQ below (va_Qi (fun (r u : Int32) => r = u) (fun (u : Int32) (t : State) => (Q u) ∧ va_P (dC, dI) vwCl [(h0, .inr (13, oX10 v_there v_count v_captures v_ranges (.ref h5) (.ref h1) (.ref h2) (.ref h6) (.ref h7) (.ref h8) (.ref h9) (.ref h10) (.ref h11) (.ref h12) (.ref h13) (.ref h3) (.ref h14) (.ref h4) (.ref h15) (.ref h16))), (h1, .inl (k0, 256, .inl v_holder)), (h2, .inl (k1, 256, .inl v_end)), (h3, .inl (k2, 256, .inl (fun q9 => bz (v_mayBeEmpty q9)))), (h4, .inl (k3, 256, .inl (fun q9 => bz (v_marked q9))))] t.heap ∧ va_D A [(h0, .inr (13, oX10 v_there v_count v_captures v_ranges (.ref h5) (.ref h1) (.ref h2) (.ref h6) (.ref h7) (.ref h8) (.ref h9) (.ref h10) (.ref h11) (.ref h12) (.ref h13) (.ref h3) (.ref h14) (.ref h4) (.ref h15) (.ref h16))), (h1, .inl (k0, 256, .inl v_holder)), (h2, .inl (k1, 256, .inl v_end)), (h3, .inl (k2, 256, .inl (fun q9 => bz (v_mayBeEmpty q9)))), (h4, .inl (k3, 256, .inl (fun q9 => bz (v_marked q9))))]) A) ([.ref h0, .int p1]).toArray s 0 0 A := ⟨_, rfl⟩
  show W p l e ({ frames := 1, cells := 0, slots := 0, locals := 22 } : Room) s m ([.ref h0, .int p1]).toArray below meth c s.heap [] 0 0 (MQ below (va_Qi (fun (r u : Int32) => r = u) (fun (u : Int32) (t : State) => (Q u) ∧ va_P (dC, dI) vwCl [(h0, .inr (13, oX10 v_there v_count v_captures v_ranges (.ref h5) (.ref h1) (.ref h2) (.ref h6) (.ref h7) (.ref h8) (.ref h9) (.ref h10) (.ref h11) (.ref h12) (.ref h13) (.ref h3) (.ref h14) (.ref h4) (.ref h15) (.ref h16))), (h1, .inl (k0, 256, .inl v_holder)), (h2, .inl (k1, 256, .inl v_end)), (h3, .inl (k2, 256, .inl (fun q9 => bz (v_mayBeEmpty q9)))), (h4, .inl (k3, 256, .inl (fun q9 => bz (v_marked q9))))] t.heap ∧ va_D A [(h0, .inr (13, oX10 v_there v_count v_captures v_ranges (.ref h5) (.ref h1) (.ref h2) (.ref h6) (.ref h7) (.ref h8) (.ref h9) (.ref h10) (.ref h11) (.ref h12) (.ref h13) (.ref h3) (.ref h14) (.ref h4) (.ref h15) (.ref h16))), (h1, .inl (k0, 256, .inl v_holder)), (h2, .inl (k1, 256, .inl v_end)), (h3, .inl (k2, 256, .inl (fun q9 => bz (v_mayBeEmpty q9)))), (h4, .inl (k3, 256, .inl (fun q9 => bz (v_marked q9))))]) A) ([.ref h0, .int p1]).toArray s 0 0 A) (F0 m 0 ls [])
  rw [← hQQ]
  unfold w_X10_rowBegins at w
  refine lv_aload_n hx hb dX10_rowBegins_0 rfl (lv_at hl 0 rfl) ?_
  refine lv_iload_n hx hb dX10_rowBegins_1 rfl (lv_at hl 1 rfl) ?_
  have hPc_1 := hP.sub (ws' := [(h0, .inr (13, oX10 v_there v_count v_captures v_ranges (.ref h5) (.ref h1) (.ref h2) (.ref h6) (.ref h7) (.ref h8) (.ref h9) (.ref h10) (.ref h11) (.ref h12) (.ref h13) (.ref h3) (.ref h14) (.ref h4) (.ref h15) (.ref h16))), (h2, .inl (k1, 256, .inl v_end))]) [0, 2] rfl
  have hDc_1 := hD.sub (ws' := [(h0, .inr (13, oX10 v_there v_count v_captures v_ranges (.ref h5) (.ref h1) (.ref h2) (.ref h6) (.ref h7) (.ref h8) (.ref h9) (.ref h10) (.ref h11) (.ref h12) (.ref h13) (.ref h3) (.ref h14) (.ref h4) (.ref h15) (.ref h16))), (h2, .inl (k1, 256, .inl v_end))]) [0, 2] (by decide) rfl
  have hKc_1 := hK.sub (tys' := [(k1, .int)]) [1] rfl
  have hFc_1 := va_free (wc := [(h0, .inr (13, oX10 v_there v_count v_captures v_ranges (.ref h5) (.ref h1) (.ref h2) (.ref h6) (.ref h7) (.ref h8) (.ref h9) (.ref h10) (.ref h11) (.ref h12) (.ref h13) (.ref h3) (.ref h14) (.ref h4) (.ref h15) (.ref h16))), (h2, .inl (k1, 256, .inl v_end))]) hD hS hA [0, 2] rfl
  refine va_calli (va_runV (As := [.int p1]) (rest := []) ⟨hx, hb, hml, hown, ht⟩ (mt_X10_firstOf l dC dI h0 h2 h5 h1 h6 h7 h8 h9 h10 h11 h12 h13 h3 h14 h4 h15 h16 k1 p1 v_there v_count v_captures v_ranges v_end _ w s.heap.size) (cwV 1 ht (goodV tw_1089 tw_1090 tw_1091 tw_240 gw_X10_firstOf) rfl rfl rfl (by decide +kernel) ⟨Nat.le_of_ble_eq_true rfl, Nat.le_of_ble_eq_true rfl⟩) ⟨fun a U g mk q => by obtain ⟨q0, q1, qP, qK, qD⟩ := q; exact ⟨q0, q1, qP, va_K.moved (u := U) (U := U.calling g mk a) (Vm.Alike.refl U.vm) qK, qD⟩, va_recv hKc_1 hPc_1 (ci := 13) (q0 := 0) rfl rfl, fun U hU hW => ⟨rfl, by rw [hU], by rw [hU]; exact hPc_1, va_K.moved hW.alike hKc_1, hDc_1.weaken (fun _ _ _ _ => trivial)⟩⟩ rfl rfl hl.1 rfl (lv_room (Nat.le_of_ble_eq_true rfl)) dX10_rowBegins_2 ⟨Nat.le_of_ble_eq_true rfl, Nat.le_of_ble_eq_true rfl⟩) hS (fun q _ h => hFc_1 q h) hFc_1 (fun r_1 u_1 t_1 H_1 locs_1 ht_1 hvm_1 hw_1 hB_1 hz_1 hk_1 hS_1 => ?_)
  subst hw_1
  obtain ⟨w_1, hP1_1, hD1_1⟩ := hB_1
  rw [ht_1] at hP1_1
  obtain ⟨hP_1, hD_1⟩ := va_join (wr := [(h1, .inl (k0, 256, .inl v_holder)), (h3, .inl (k2, 256, .inl (fun q9 => bz (v_mayBeEmpty q9)))), (h4, .inl (k3, 256, .inl (fun q9 => bz (v_marked q9))))]) (w1 := [(h0, .inr (13, oX10 v_there v_count v_captures v_ranges (.ref h5) (.ref h1) (.ref h2) (.ref h6) (.ref h7) (.ref h8) (.ref h9) (.ref h10) (.ref h11) (.ref h12) (.ref h13) (.ref h3) (.ref h14) (.ref h4) (.ref h15) (.ref h16))), (h2, .inl (k1, 256, .inl v_end))]) hP hD [0, 2] [1, 3, 4] rfl rfl (by decide) (by decide) hk_1 hFc_1 hP1_1 hD1_1
  have hP_1 := hP_1.sub (ws' := [(h0, .inr (13, oX10 v_there v_count v_captures v_ranges (.ref h5) (.ref h1) (.ref h2) (.ref h6) (.ref h7) (.ref h8) (.ref h9) (.ref h10) (.ref h11) (.ref h12) (.ref h13) (.ref h3) (.ref h14) (.ref h4) (.ref h15) (.ref h16))), (h1, .inl (k0, 256, .inl v_holder)), (h2, .inl (k1, 256, .inl v_end)), (h3, .inl (k2, 256, .inl (fun q9 => bz (v_mayBeEmpty q9)))), (h4, .inl (k3, 256, .inl (fun q9 => bz (v_marked q9))))]) [3, 0, 4, 1, 2] rfl
  have hD_1 := hD_1.sub (ws' := [(h0, .inr (13, oX10 v_there v_count v_captures v_ranges (.ref h5) (.ref h1) (.ref h2) (.ref h6) (.ref h7) (.ref h8) (.ref h9) (.ref h10) (.ref h11) (.ref h12) (.ref h13) (.ref h3) (.ref h14) (.ref h4) (.ref h15) (.ref h16))), (h1, .inl (k0, 256, .inl v_holder)), (h2, .inl (k1, 256, .inl v_end)), (h3, .inl (k2, 256, .inl (fun q9 => bz (v_mayBeEmpty q9)))), (h4, .inl (k3, 256, .inl (fun q9 => bz (v_marked q9))))]) [3, 0, 4, 1, 2] (by decide) rfl
  clear hPc_1 hDc_1 hKc_1 hFc_1 hP1_1 hD1_1 hk_1 hz_1
  refine lv_istore_n (lv' := [(2, .int r_1), (0, .ref h0), (1, .int p1)]) hx hb dX10_rowBegins_5 rfl hl (by decide) rfl (fun ls_2 hl_2 => ?_)
  clear hl
  have k_6 : ∀ n_6 : Nat, ∀ (l2_6 : Int32), ∀ (H_b6 : Heap) (locs_b6 : List Loc) (ls_b6 : Array Slot), w_X10_rowBegins_6 v_count v_holder v_end v_mayBeEmpty v_marked Q n_6 l2_6 → va_P (dC, dI) vwCl [(h0, .inr (13, oX10 v_there v_count v_captures v_ranges (.ref h5) (.ref h1) (.ref h2) (.ref h6) (.ref h7) (.ref h8) (.ref h9) (.ref h10) (.ref h11) (.ref h12) (.ref h13) (.ref h3) (.ref h14) (.ref h4) (.ref h15) (.ref h16))), (h1, .inl (k0, 256, .inl v_holder)), (h2, .inl (k1, 256, .inl v_end)), (h3, .inl (k2, 256, .inl (fun q9 => bz (v_mayBeEmpty q9)))), (h4, .inl (k3, 256, .inl (fun q9 => bz (v_marked q9))))] H_b6 → va_D A [(h0, .inr (13, oX10 v_there v_count v_captures v_ranges (.ref h5) (.ref h1) (.ref h2) (.ref h6) (.ref h7) (.ref h8) (.ref h9) (.ref h10) (.ref h11) (.ref h12) (.ref h13) (.ref h3) (.ref h14) (.ref h4) (.ref h15) (.ref h16))), (h1, .inl (k0, 256, .inl v_holder)), (h2, .inl (k1, 256, .inl v_end)), (h3, .inl (k2, 256, .inl (fun q9 => bz (v_mayBeEmpty q9)))), (h4, .inl (k3, 256, .inl (fun q9 => bz (v_marked q9))))] → va_S A s.heap H_b6 locs_b6 → lv_has ls_b6 3 [(0, .ref h0), (2, .int l2_6)] → W p l e ({ frames := 1, cells := 0, slots := 0, locals := 22 } : Room) s m ([.ref h0, .int p1]).toArray below meth c H_b6 locs_b6 0 0 QQ (F0 m 6 ls_b6 []) := by
    intro n_6
    induction n_6 with
    | zero =>
      intro l2_6 H_b6 locs_b6 ls_b6 w_b6 hP_b6 hD_b6 hS_b6 hl_b6
      exact False.elim (by unfold w_X10_rowBegins_6 at w_b6; exact w_b6)
    | succ n_6 ih_6 =>
      intro l2_6 H_b6 locs_b6 ls_b6 w_b6 hP_b6 hD_b6 hS_b6 hl_b6
      unfold w_X10_rowBegins_6 at w_b6
      unfold w_X10_rowBegins_6B at w_b6
      refine lv_aload_n hx hb dX10_rowBegins_6 rfl (lv_at hl_b6 0 rfl) ?_
      refine lv_iload_n hx hb dX10_rowBegins_7 rfl (lv_at hl_b6 1 rfl) ?_
      have hPc_3 := hP_b6.sub (ws' := [(h0, .inr (13, oX10 v_there v_count v_captures v_ranges (.ref h5) (.ref h1) (.ref h2) (.ref h6) (.ref h7) (.ref h8) (.ref h9) (.ref h10) (.ref h11) (.ref h12) (.ref h13) (.ref h3) (.ref h14) (.ref h4) (.ref h15) (.ref h16)))]) [0] rfl
      have hDc_3 := hD_b6.sub (ws' := [(h0, .inr (13, oX10 v_there v_count v_captures v_ranges (.ref h5) (.ref h1) (.ref h2) (.ref h6) (.ref h7) (.ref h8) (.ref h9) (.ref h10) (.ref h11) (.ref h12) (.ref h13) (.ref h3) (.ref h14) (.ref h4) (.ref h15) (.ref h16)))]) [0] (by decide) rfl
      have hKc_3 := hK.sub (tys' := []) [] rfl
      have hFc_3 := va_free (wc := [(h0, .inr (13, oX10 v_there v_count v_captures v_ranges (.ref h5) (.ref h1) (.ref h2) (.ref h6) (.ref h7) (.ref h8) (.ref h9) (.ref h10) (.ref h11) (.ref h12) (.ref h13) (.ref h3) (.ref h14) (.ref h4) (.ref h15) (.ref h16)))]) hD_b6 hS_b6 hA [0] rfl
      refine va_calli (va_runV (As := [.int l2_6]) (rest := []) ⟨hx, hb, hml, hown, ht⟩ (mt_X10_has l dC dI h0 h5 h1 h2 h6 h7 h8 h9 h10 h11 h12 h13 h3 h14 h4 h15 h16 l2_6 v_there v_count v_captures v_ranges _ w_b6 H_b6.size) (cwV 1 ht (goodV tw_1069 tw_1070 tw_1071 tw_240 gw_X10_has) rfl rfl rfl (by decide +kernel) ⟨Nat.le_of_ble_eq_true rfl, Nat.le_of_ble_eq_true rfl⟩) ⟨fun a U g mk q => by obtain ⟨q0, q1, qP, qK, qD⟩ := q; exact ⟨q0, q1, qP, va_K.moved (u := U) (U := U.calling g mk a) (Vm.Alike.refl U.vm) qK, qD⟩, va_recv hKc_3 hPc_3 (ci := 13) (q0 := 0) rfl rfl, fun U hU hW => ⟨rfl, by rw [hU], by rw [hU]; exact hPc_3, va_K.moved hW.alike hKc_3, hDc_3.weaken (fun _ _ _ _ => trivial)⟩⟩ rfl rfl hl_b6.1 rfl (lv_room (Nat.le_of_ble_eq_true rfl)) dX10_rowBegins_8 ⟨Nat.le_of_ble_eq_true rfl, Nat.le_of_ble_eq_true rfl⟩) hS_b6 (fun q _ h => hFc_3 q h) hFc_3 (fun r_3 u_3 t_3 H_3 locs_3 ht_3 hvm_3 hw_3 hB_3 hz_3 hk_3 hS_3 => ?_)
      subst hw_3
      obtain ⟨w_3, hP1_3, hD1_3⟩ := hB_3
      rw [ht_3] at hP1_3
      obtain ⟨hP_3, hD_3⟩ := va_join (wr := [(h1, .inl (k0, 256, .inl v_holder)), (h2, .inl (k1, 256, .inl v_end)), (h3, .inl (k2, 256, .inl (fun q9 => bz (v_mayBeEmpty q9)))), (h4, .inl (k3, 256, .inl (fun q9 => bz (v_marked q9))))]) (w1 := [(h0, .inr (13, oX10 v_there v_count v_captures v_ranges (.ref h5) (.ref h1) (.ref h2) (.ref h6) (.ref h7) (.ref h8) (.ref h9) (.ref h10) (.ref h11) (.ref h12) (.ref h13) (.ref h3) (.ref h14) (.ref h4) (.ref h15) (.ref h16)))]) hP_b6 hD_b6 [0] [1, 2, 3, 4] rfl rfl (by decide) (by decide) hk_3 hFc_3 hP1_3 hD1_3
      have hP_3 := hP_3.sub (ws' := [(h0, .inr (13, oX10 v_there v_count v_captures v_ranges (.ref h5) (.ref h1) (.ref h2) (.ref h6) (.ref h7) (.ref h8) (.ref h9) (.ref h10) (.ref h11) (.ref h12) (.ref h13) (.ref h3) (.ref h14) (.ref h4) (.ref h15) (.ref h16))), (h1, .inl (k0, 256, .inl v_holder)), (h2, .inl (k1, 256, .inl v_end)), (h3, .inl (k2, 256, .inl (fun q9 => bz (v_mayBeEmpty q9)))), (h4, .inl (k3, 256, .inl (fun q9 => bz (v_marked q9))))]) [4, 0, 1, 2, 3] rfl
      have hD_3 := hD_3.sub (ws' := [(h0, .inr (13, oX10 v_there v_count v_captures v_ranges (.ref h5) (.ref h1) (.ref h2) (.ref h6) (.ref h7) (.ref h8) (.ref h9) (.ref h10) (.ref h11) (.ref h12) (.ref h13) (.ref h3) (.ref h14) (.ref h4) (.ref h15) (.ref h16))), (h1, .inl (k0, 256, .inl v_holder)), (h2, .inl (k1, 256, .inl v_end)), (h3, .inl (k2, 256, .inl (fun q9 => bz (v_mayBeEmpty q9)))), (h4, .inl (k3, 256, .inl (fun q9 => bz (v_marked q9))))]) [4, 0, 1, 2, 3] (by decide) rfl
      clear hPc_3 hDc_3 hKc_3 hFc_3 hP1_3 hD1_3 hk_3 hz_3
      refine lv_if_eq (tgt := 48) hx hb dX10_rowBegins_11 (by decide) (fun c_4 => ?_) (fun c_4 => ?_)
      · refine lv_iconst (v := 0) hx hb dX10_rowBegins_48 (by decide) ?_
        rw [hQQ]
        exact W.zret (v := 0) hx hb hr rfl (fun t9 ht9 hW9 => ⟨⟨0, 0, rfl, rfl, ⟨w_3.1 c_4, by rw [ht9]; exact hP_3, hD_3⟩⟩, hS_3.F ht9⟩) hS_3.2.2 dX10_rowBegins_49
      · refine lv_aload_n hx hb dX10_rowBegins_14 rfl (lv_at hl_b6 0 rfl) ?_
        refine va_get (D := (dC, dI)) (ci := 13) (v := .ref h4) (C := RX10) (T := TX10) (N := 20) hx hb ht inX10 hown hK hP_3 0 rfl rfl 17 (by decide) (ht _ tw_340) (fun _ h9 => h9) rfl dX10_rowBegins_15 ?_
        refine lv_iload_n hx hb dX10_rowBegins_18 rfl (lv_at hl_b6 1 rfl) ?_
        refine va_zald hx hb hK hP_3 4 3 rfl rfl (i := l2_6) (w_3.2 c_4).1 dX10_rowBegins_19 ?_
        refine lv_topi (fun x_5 ex_5 => ?_)
        have ex_5 : x_5 = bz (v_marked l2_6.toNatClampNeg) := ex_5
        have k_32 : ∀ (l2_32 : Int32), ∀ (H_b32 : Heap) (locs_b32 : List Loc) (ls_b32 : Array Slot), w_X10_rowBegins_32 v_marked Q l2_32 → va_P (dC, dI) vwCl [(h0, .inr (13, oX10 v_there v_count v_captures v_ranges (.ref h5) (.ref h1) (.ref h2) (.ref h6) (.ref h7) (.ref h8) (.ref h9) (.ref h10) (.ref h11) (.ref h12) (.ref h13) (.ref h3) (.ref h14) (.ref h4) (.ref h15) (.ref h16))), (h1, .inl (k0, 256, .inl v_holder)), (h2, .inl (k1, 256, .inl v_end)), (h3, .inl (k2, 256, .inl (fun q9 => bz (v_mayBeEmpty q9)))), (h4, .inl (k3, 256, .inl (fun q9 => bz (v_marked q9))))] H_b32 → va_D A [(h0, .inr (13, oX10 v_there v_count v_captures v_ranges (.ref h5) (.ref h1) (.ref h2) (.ref h6) (.ref h7) (.ref h8) (.ref h9) (.ref h10) (.ref h11) (.ref h12) (.ref h13) (.ref h3) (.ref h14) (.ref h4) (.ref h15) (.ref h16))), (h1, .inl (k0, 256, .inl v_holder)), (h2, .inl (k1, 256, .inl v_end)), (h3, .inl (k2, 256, .inl (fun q9 => bz (v_mayBeEmpty q9)))), (h4, .inl (k3, 256, .inl (fun q9 => bz (v_marked q9))))] → va_S A s.heap H_b32 locs_b32 → lv_has ls_b32 3 [(0, .ref h0), (2, .int l2_32)] → W p l e ({ frames := 1, cells := 0, slots := 0, locals := 22 } : Room) s m ([.ref h0, .int p1]).toArray below meth c H_b32 locs_b32 0 0 QQ (F0 m 32 ls_b32 []) := by
          intro l2_32 H_b32 locs_b32 ls_b32 w_b32 hP_b32 hD_b32 hS_b32 hl_b32
          unfold w_X10_rowBegins_32 at w_b32
          refine lv_aload_n hx hb dX10_rowBegins_32 rfl (lv_at hl_b32 0 rfl) ?_
          refine va_get (D := (dC, dI)) (ci := 13) (v := .ref h4) (C := RX10) (T := TX10) (N := 20) hx hb ht inX10 hown hK hP_b32 0 rfl rfl 17 (by decide) (ht _ tw_340) (fun _ h9 => h9) rfl dX10_rowBegins_33 ?_
          refine lv_iload_n hx hb dX10_rowBegins_36 rfl (lv_at hl_b32 1 rfl) ?_
          refine va_zald hx hb hK hP_b32 4 3 rfl rfl (i := l2_32) w_b32.1 dX10_rowBegins_37 ?_
          refine lv_topi (fun x_6 ex_6 => ?_)
          have ex_6 : x_6 = bz (v_marked l2_32.toNatClampNeg) := ex_6
          rw [hQQ]
          exact W.zret (v := x_6) hx hb hr (or_nar (w_b32.2 x_6 ex_6).1) (fun t9 ht9 hW9 => ⟨⟨x_6, x_6, rfl, rfl, ⟨(w_b32.2 x_6 ex_6).2, by rw [ht9]; exact hP_b32, hD_b32⟩⟩, hS_b32.F ht9⟩) hS_b32.2.2 dX10_rowBegins_38
        refine lv_if_ne (tgt := 32) hx hb dX10_rowBegins_20 (by decide) (fun c_7 => ?_) (fun c_7 => ?_)
        · exact k_32 l2_6 _ _ _ ((((w_3.2 c_4).2) x_5 ex_5).1 c_7) hP_3 hD_3 hS_3 (lv_sub hl_b6 [0, 1] rfl)
        · refine lv_aload_n hx hb dX10_rowBegins_23 rfl (lv_at hl_b6 0 rfl) ?_
          refine va_get (D := (dC, dI)) (ci := 13) (v := .ref h3) (C := RX10) (T := TX10) (N := 20) hx hb ht inX10 hown hK hP_3 0 rfl rfl 15 (by decide) (ht _ tw_338) (fun _ h9 => h9) rfl dX10_rowBegins_24 ?_
          refine lv_iload_n hx hb dX10_rowBegins_27 rfl (lv_at hl_b6 1 rfl) ?_
          refine va_zald hx hb hK hP_3 3 2 rfl rfl (i := l2_6) ((((w_3.2 c_4).2) x_5 ex_5).2 c_7).1 dX10_rowBegins_28 ?_
          refine lv_topi (fun x_8 ex_8 => ?_)
          have ex_8 : x_8 = bz (v_mayBeEmpty l2_6.toNatClampNeg) := ex_8
          have w_9 := (((((w_3.2 c_4).2) x_5 ex_5).2 c_7).2) x_8 ex_8
          refine lv_if_ne (tgt := 39) hx hb dX10_rowBegins_29 (by decide) (fun c_10 => ?_) (fun c_10 => ?_)
          · refine lv_aload_n hx hb dX10_rowBegins_39 rfl (lv_at hl_b6 0 rfl) ?_
            refine lv_iload_n hx hb dX10_rowBegins_40 rfl (lv_at hl_b6 1 rfl) ?_
            have hPc_11 := hP_3.sub (ws' := [(h0, .inr (13, oX10 v_there v_count v_captures v_ranges (.ref h5) (.ref h1) (.ref h2) (.ref h6) (.ref h7) (.ref h8) (.ref h9) (.ref h10) (.ref h11) (.ref h12) (.ref h13) (.ref h3) (.ref h14) (.ref h4) (.ref h15) (.ref h16))), (h1, .inl (k0, 256, .inl v_holder)), (h2, .inl (k1, 256, .inl v_end))]) [0, 1, 2] rfl
            have hDc_11 := hD_3.sub (ws' := [(h0, .inr (13, oX10 v_there v_count v_captures v_ranges (.ref h5) (.ref h1) (.ref h2) (.ref h6) (.ref h7) (.ref h8) (.ref h9) (.ref h10) (.ref h11) (.ref h12) (.ref h13) (.ref h3) (.ref h14) (.ref h4) (.ref h15) (.ref h16))), (h1, .inl (k0, 256, .inl v_holder)), (h2, .inl (k1, 256, .inl v_end))]) [0, 1, 2] (by decide) rfl
            have hKc_11 := hK.sub (tys' := [(k0, .int), (k1, .int)]) [0, 1] rfl
            have hFc_11 := va_free (wc := [(h0, .inr (13, oX10 v_there v_count v_captures v_ranges (.ref h5) (.ref h1) (.ref h2) (.ref h6) (.ref h7) (.ref h8) (.ref h9) (.ref h10) (.ref h11) (.ref h12) (.ref h13) (.ref h3) (.ref h14) (.ref h4) (.ref h15) (.ref h16))), (h1, .inl (k0, 256, .inl v_holder)), (h2, .inl (k1, 256, .inl v_end))]) hD_3 hS_3 hA [0, 1, 2] rfl
            refine va_calli (va_runV (As := [.int l2_6]) (rest := []) ⟨hx, hb, hml, hown, ht⟩ (mt_X10_nextOf l dC dI h0 h1 h2 h5 h6 h7 h8 h9 h10 h11 h12 h13 h3 h14 h4 h15 h16 k0 k1 l2_6 v_there v_count v_captures v_ranges v_holder v_end _ (w_9.1 c_10) H_3.size) (cwV 1 ht (goodV tw_1093 tw_1094 tw_1095 tw_240 gw_X10_nextOf) rfl rfl rfl (by decide +kernel) ⟨Nat.le_of_ble_eq_true rfl, Nat.le_of_ble_eq_true rfl⟩) ⟨fun a U g mk q => by obtain ⟨q0, q1, qP, qK, qD⟩ := q; exact ⟨q0, q1, qP, va_K.moved (u := U) (U := U.calling g mk a) (Vm.Alike.refl U.vm) qK, qD⟩, va_recv hKc_11 hPc_11 (ci := 13) (q0 := 0) rfl rfl, fun U hU hW => ⟨rfl, by rw [hU], by rw [hU]; exact hPc_11, va_K.moved hW.alike hKc_11, hDc_11.weaken (fun _ _ _ _ => trivial)⟩⟩ rfl rfl hl_b6.1 rfl (lv_room (Nat.le_of_ble_eq_true rfl)) dX10_rowBegins_41 ⟨Nat.le_of_ble_eq_true rfl, Nat.le_of_ble_eq_true rfl⟩) hS_3 (fun q _ h => hFc_11 q h) hFc_11 (fun r_11 u_11 t_11 H_11 locs_11 ht_11 hvm_11 hw_11 hB_11 hz_11 hk_11 hS_11 => ?_)
            subst hw_11
            obtain ⟨w_11, hP1_11, hD1_11⟩ := hB_11
            rw [ht_11] at hP1_11
            obtain ⟨hP_11, hD_11⟩ := va_join (wr := [(h3, .inl (k2, 256, .inl (fun q9 => bz (v_mayBeEmpty q9)))), (h4, .inl (k3, 256, .inl (fun q9 => bz (v_marked q9))))]) (w1 := [(h0, .inr (13, oX10 v_there v_count v_captures v_ranges (.ref h5) (.ref h1) (.ref h2) (.ref h6) (.ref h7) (.ref h8) (.ref h9) (.ref h10) (.ref h11) (.ref h12) (.ref h13) (.ref h3) (.ref h14) (.ref h4) (.ref h15) (.ref h16))), (h1, .inl (k0, 256, .inl v_holder)), (h2, .inl (k1, 256, .inl v_end))]) hP_3 hD_3 [0, 1, 2] [3, 4] rfl rfl (by decide) (by decide) hk_11 hFc_11 hP1_11 hD1_11
            have hP_11 := hP_11.sub (ws' := [(h0, .inr (13, oX10 v_there v_count v_captures v_ranges (.ref h5) (.ref h1) (.ref h2) (.ref h6) (.ref h7) (.ref h8) (.ref h9) (.ref h10) (.ref h11) (.ref h12) (.ref h13) (.ref h3) (.ref h14) (.ref h4) (.ref h15) (.ref h16))), (h1, .inl (k0, 256, .inl v_holder)), (h2, .inl (k1, 256, .inl v_end)), (h3, .inl (k2, 256, .inl (fun q9 => bz (v_mayBeEmpty q9)))), (h4, .inl (k3, 256, .inl (fun q9 => bz (v_marked q9))))]) [2, 3, 4, 0, 1] rfl
            have hD_11 := hD_11.sub (ws' := [(h0, .inr (13, oX10 v_there v_count v_captures v_ranges (.ref h5) (.ref h1) (.ref h2) (.ref h6) (.ref h7) (.ref h8) (.ref h9) (.ref h10) (.ref h11) (.ref h12) (.ref h13) (.ref h3) (.ref h14) (.ref h4) (.ref h15) (.ref h16))), (h1, .inl (k0, 256, .inl v_holder)), (h2, .inl (k1, 256, .inl v_end)), (h3, .inl (k2, 256, .inl (fun q9 => bz (v_mayBeEmpty q9)))), (h4, .inl (k3, 256, .inl (fun q9 => bz (v_marked q9))))]) [2, 3, 4, 0, 1] (by decide) rfl
            clear hPc_11 hDc_11 hKc_11 hFc_11 hP1_11 hD1_11 hk_11 hz_11
            refine lv_istore_n (lv' := [(2, .int r_11), (0, .ref h0)]) hx hb dX10_rowBegins_44 rfl hl_b6 (by decide) rfl (fun ls_12 hl_12 => ?_)
            clear hl_b6
            refine lv_goto (tgt := 6) hx hb dX10_rowBegins_45 (by decide) ?_
            exact ih_6 r_11 _ _ _ w_11 hP_11 hD_11 hS_11 (lv_sub hl_12 [1, 0] rfl)
          · exact k_32 l2_6 _ _ _ (w_9.2 c_10) hP_3 hD_3 hS_3 (lv_sub hl_b6 [0, 1] rfl)
  obtain ⟨n_13, w_13⟩ := w_1
  exact k_6 n_13 r_1 _ _ _ w_13 hP_1 hD_1 hS_1 (lv_sub hl_2 [1, 0] rfl)
