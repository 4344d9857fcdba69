set_option maxHeartbeats 4000000 in
set_option maxRecDepth 100000 in
theorem mt_X11_feed_v4 (l : Launch) (dC : Nat → ClassId) (dI : Nat → Nat → Nat) (h0 h1 h2 h3 h4 h5 h6 h7 h8 h9 h10 h11 h12 h13 : Nat) (k0 : ClassId) (w0 : Int64) (sz : Nat) : Met l yX11_feed (WS yX11_feed cX11_feed 5 (some (.int))) ({ frames := 1, cells := 0, slots := 0, locals := 22 }) (va_Pc [.ref h0, .int 2, .long w0] (fun U => U.heap.size = sz ∧ va_P (dC, dI) vwCl [(h0, .inr (14, [.ref h1, .ref h2, .ref h3, .ref h4, .int 0, .ref h5, .ref h6, .ref h7, .ref h8, .ref h9, .ref h10, .ref h11, .ref h12, .int (-1), .int 0, .int 0, .int (-1), .int (-1)])), (h1, .inr (10, [.ref h13, .int 0, .int 0, .int 0])), (h13, .inl (k0, 200, .inl (fun _ => 0)))] U.heap ∧ va_K (dC, dI) vwCl [(k0, .int)] U ∧ va_D (fun _ => True) [(h0, .inr (14, [.ref h1, .ref h2, .ref h3, .ref h4, .int 0, .ref h5, .ref h6, .ref h7, .ref h8, .ref h9, .ref h10, .ref h11, .ref h12, .int (-1), .int 0, .int 0, .int (-1), .int (-1)])), (h1, .inr (10, [.ref h13, .int 0, .int 0, .int 0])), (h13, .inl (k0, 200, .inl (fun _ => 0)))])) (va_Qi (fun (r : Int32) (u : Nat) => (u = 0 ∧ r = (-4) ∧ (¬ GC2 w0)) ∨ (u = 1 ∧ r = 2 ∧ (GC2 w0))) (fun (_ : Nat) (t : State) => (va_P (dC, dI) vwCl [] t.heap ∧ va_K (dC, dI) vwCl [] t ∧ va_D (va_A [(h0, .inr (14, [.ref h1, .ref h2, .ref h3, .ref h4, .int 0, .ref h5, .ref h6, .ref h7, .ref h8, .ref h9, .ref h10, .ref h11, .ref h12, .int (-1), .int 0, .int 0, .int (-1), .int (-1)])), (h1, .inr (10, [.ref h13, .int 0, .int 0, .int 0])), (h13, .inl (k0, 200, .inl (fun _ => 0)))] sz) [])) (va_A [(h0, .inr (14, [.ref h1, .ref h2, .ref h3, .ref h4, .int 0, .ref h5, .ref h6, .ref h7, .ref h8, .ref h9, .ref h10, .ref h11, .ref h12, .int (-1), .int 0, .int 0, .int (-1), .int (-1)])), (h1, .inr (10, [.ref h13, .int 0, .int 0, .int 0])), (h13, .inl (k0, 200, .inl (fun _ => 0)))] sz)) 0 0 (va_A [(h0, .inr (14, [.ref h1, .ref h2, .ref h3, .ref h4, .int 0, .ref h5, .ref h6, .ref h7, .ref h8, .ref h9, .ref h10, .ref h11, .ref h12, .int (-1), .int 0, .int 0, .int (-1), .int (-1)])), (h1, .inr (10, [.ref h13, .int 0, .int 0, .int 0])), (h13, .inl (k0, 200, .inl (fun _ => 0)))] sz) := by
  refine Met.ofW (cc := cX11_feed) (maxL := 5) (ret := (some (.int))) (by decide) rfl ?_
  intro p e s m args below meth c s₁ B hml hv
  obtain ⟨rfl, hsz, hP, hK, hD0⟩ := hv
  have hx := B.exec
  have hb := B.bytes
  have hr := B.returns
  have hts := atoms_spec (ws := WS yX11_feed cX11_feed 5 (some (.int))) B.pre
  have ht : ∀ w ∈ TW, w.before _ s = true := fun w h => hts w (List.mem_cons_of_mem _ h)
  have hown : s.vm.findClass "PatternWorkshop" = some m.cls := findClass_of_methodNamed B.named
  have hlocks := B.notSynchronized
  subst hsz
  have hD := hD0.self (sz := s.heap.size)
  generalize hAe : va_A [(h0, .inr (14, [.ref h1, .ref h2, .ref h3, .ref h4, .int 0, .ref h5, .ref h6, .ref h7, .ref h8, .ref h9, .ref h10, .ref h11, .ref h12, .int (-1), .int 0, .int 0, .int (-1), .int (-1)])), (h1, .inr (10, [.ref h13, .int 0, .int 0, .int 0])), (h13, .inl (k0, 200, .inl (fun _ => 0)))] s.heap.size = A at hD ⊢
  have hA : ∀ q : Nat, s.heap.size ≤ q → A q := fun q h => by rw [← hAe]; exact Or.inr h
  have hS : va_S A s.heap s.heap [] := va_S.rf
  have hP : va_P (dC, dI) vwCl [(h0, .inr (14, [.ref h1, .ref h2, .ref h3, .ref h4, .int 0, .ref h5, .ref h6, .ref h7, .ref h8, .ref h9, .ref h10, .ref h11, .ref h12, .int (-1), .int 0, .int 0, .int (-1), .int (-1)])), (h1, .inr (10, [.ref h13, .int 0, .int 0, .int 0])), (h13, .inl (k0, 200, .inl (fun _ => 0)))] s.heap := hP
  have hl := lv_entry ([.ref h0, .int 2, .long w0]) (n := 5) (Nat.le_of_ble_eq_true rfl)
  rw [lg_entry_eq]
  generalize (lg_sl ([.ref h0, .int 2, .long w0]) ++ List.replicate (5 - (lg_sl ([.ref h0, .int 2, .long w0])).length) Slot.unset).toArray = ls at hl ⊢
  have hl : lv_has ls 5 [(0, .ref h0), (1, .int 2), (2, .long w0)] := hl
  clear hD0
  refine lv_iload_n hx hb dX11_feed_0 rfl (lv_at hl 1 rfl) ?_
  refine lv_iconst (v := 1) hx hb dX11_feed_1 (by decide) ?_
  refine lv_icmp_lt (tgt := 11) hx hb dX11_feed_2 (by decide) (fun c_ => absurd c_ (by decide)) (fun _ => ?_)
  refine lv_iload_n hx hb dX11_feed_5 rfl (lv_at hl 1 rfl) ?_
  refine lv_bipush (v := 8) hx hb dX11_feed_6 (by decide) ?_
  refine lv_icmp_le (tgt := 14) hx hb dX11_feed_8 (by decide) (fun _ => ?_) (fun c_ => absurd (by decide) c_)
  refine lv_iconst (v := 0) hx hb dX11_feed_14 (by decide) ?_
  refine lv_istore (lv' := [(4, .int 0), (0, .ref h0), (1, .int 2), (2, .long w0)]) hx hb dX11_feed_15 hl (by decide) rfl (fun ls_1 hl_1 => ?_)
  clear hl
  refine lv_iload hx hb dX11_feed_17 (lv_at hl_1 0 rfl) ?_
  refine lv_iload_n hx hb dX11_feed_19 rfl (lv_at hl_1 2 rfl) ?_
  refine lv_icmp_ge (tgt := 44) hx hb dX11_feed_20 (by decide) (fun c_ => absurd c_ (by decide)) (fun _ => ?_)
  refine lv_lload_n hx hb dX11_feed_23 rfl (lv_at hl_1 3 rfl) ?_
  refine lv_iload hx hb dX11_feed_24 (lv_at hl_1 0 rfl) ?_
  have hPc_2 := hP.sub (ws' := []) [] rfl
  have hDc_2 := hD.sub (ws' := []) [] (by decide) rfl
  have hKc_2 := hK.sub (tys' := []) [] rfl
  have hFc_2 := va_free (wc := []) hD hS hA [] rfl
  refine va_calli (va_runS (As := [.long w0, .int 0]) (rest := []) ⟨hx, hb, hml, hown, ht⟩ (mt_X11_byteOf l dC dI w0 s.heap.size) (cwS 2 ht (goodS tw_859 tw_860 tw_236 gw_X11_byteOf) rfl rfl rfl (by decide +kernel) ⟨Nat.le_of_ble_eq_true rfl, Nat.le_of_ble_eq_true rfl⟩) ⟨fun a U g mk q => by obtain ⟨q0, q1, qP, qK, qD⟩ := q; exact ⟨q0, q1, qP, va_K.moved (u := U) (U := U.calling g mk a) (Vm.Alike.refl U.vm) qK, qD⟩, fun U hU hW => ⟨rfl, by rw [hU], by rw [hU]; exact hPc_2, va_K.moved hW.alike hKc_2, hDc_2.weaken (fun _ _ _ _ => trivial)⟩⟩ rfl rfl hl_1.1 rfl (lv_room (Nat.le_of_ble_eq_true rfl)) dX11_feed_26 ⟨Nat.le_of_ble_eq_true rfl, Nat.le_of_ble_eq_true rfl⟩) hS (fun q _ h => hFc_2 q h) hFc_2 (fun r_2 u_2 t_2 H_2 locs_2 ht_2 hvm_2 hw_2 hB_2 hz_2 hk_2 hS_2 => ?_)
  obtain ⟨rfl, rfl⟩ := hw_2
  obtain ⟨hP1_2, hK1_2, hD1_2⟩ := hB_2
  rw [ht_2] at hP1_2
  have hK1_2 := va_K.moved hvm_2.symm hK1_2
  obtain ⟨hP_2, hD_2⟩ := va_join (wr := [(h0, .inr (14, [.ref h1, .ref h2, .ref h3, .ref h4, .int 0, .ref h5, .ref h6, .ref h7, .ref h8, .ref h9, .ref h10, .ref h11, .ref h12, .int (-1), .int 0, .int 0, .int (-1), .int (-1)])), (h1, .inr (10, [.ref h13, .int 0, .int 0, .int 0])), (h13, .inl (k0, 200, .inl (fun _ => 0)))]) (w1 := []) hP hD [] [0, 1, 2] rfl rfl (by decide) (by decide) hk_2 hFc_2 hP1_2 hD1_2
  have hK_2 := (hK.sub (tys' := [(k0, .int)]) [0] rfl).app hK1_2
  have hK_2 : va_K (dC, dI) vwCl [(k0, .int)] s := hK_2
  have hP_2 : va_P (dC, dI) vwCl [(h0, .inr (14, [.ref h1, .ref h2, .ref h3, .ref h4, .int 0, .ref h5, .ref h6, .ref h7, .ref h8, .ref h9, .ref h10, .ref h11, .ref h12, .int (-1), .int 0, .int 0, .int (-1), .int (-1)])), (h1, .inr (10, [.ref h13, .int 0, .int 0, .int 0])), (h13, .inl (k0, 200, .inl (fun _ => 0)))] H_2 := hP_2
  have hD_2 : va_D A [(h0, .inr (14, [.ref h1, .ref h2, .ref h3, .ref h4, .int 0, .ref h5, .ref h6, .ref h7, .ref h8, .ref h9, .ref h10, .ref h11, .ref h12, .int (-1), .int 0, .int 0, .int (-1), .int (-1)])), (h1, .inr (10, [.ref h13, .int 0, .int 0, .int 0])), (h13, .inl (k0, 200, .inl (fun _ => 0)))] := hD_2
  clear hP hD hS hK hPc_2 hDc_2 hKc_2 hFc_2 hP1_2 hK1_2 hD1_2 hk_2 hz_2
  have hPc_3 := hP_2.sub (ws' := []) [] rfl
  have hDc_3 := hD_2.sub (ws' := []) [] (by decide) rfl
  have hKc_3 := hK_2.sub (tys' := []) [] rfl
  have hFc_3 := va_free (wc := []) hD_2 hS_2 hA [] rfl
  refine va_calli (va_runS (As := [.int (((w0.toUInt64 >>> ((0 : Int32).toInt64.toUInt64 &&& Int64.toUInt64 63)).toInt64).toInt32 &&& 255)]) (rest := []) ⟨hx, hb, hml, hown, ht⟩ (mt_X11_isTapeSign l dC dI (((w0.toUInt64 >>> ((0 : Int32).toInt64.toUInt64 &&& Int64.toUInt64 63)).toInt64).toInt32 &&& 255) H_2.size) (cwS 1 ht (goodS tw_862 tw_863 tw_236 gw_X11_isTapeSign) rfl rfl rfl (by decide +kernel) ⟨Nat.le_of_ble_eq_true rfl, Nat.le_of_ble_eq_true rfl⟩) ⟨fun a U g mk q => by obtain ⟨q0, q1, qP, qK, qD⟩ := q; exact ⟨q0, q1, qP, va_K.moved (u := U) (U := U.calling g mk a) (Vm.Alike.refl U.vm) qK, qD⟩, fun U hU hW => ⟨rfl, by rw [hU], by rw [hU]; exact hPc_3, va_K.moved hW.alike hKc_3, hDc_3.weaken (fun _ _ _ _ => trivial)⟩⟩ rfl rfl hl_1.1 rfl (lv_room (Nat.le_of_ble_eq_true rfl)) dX11_feed_29 ⟨Nat.le_of_ble_eq_true rfl, Nat.le_of_ble_eq_true rfl⟩) hS_2 (fun q _ h => hFc_3 q h) hFc_3 (fun r_3 u_3 t_3 H_3 locs_3 ht_3 hvm_3 hw_3 hB_3 hz_3 hk_3 hS_3 => ?_)
  rcases hw_3 with ⟨rfl, rfl, cc_3_0⟩ | ⟨rfl, rfl, cc_3_0, cc_3_1⟩ | ⟨rfl, rfl, cc_3_0, cc_3_1⟩
  · obtain ⟨hP1_3, hK1_3, hD1_3⟩ := hB_3
    rw [ht_3] at hP1_3
    have hK1_3 := va_K.moved hvm_3.symm hK1_3
    obtain ⟨hP_3, hD_3⟩ := va_join (wr := [(h0, .inr (14, [.ref h1, .ref h2, .ref h3, .ref h4, .int 0, .ref h5, .ref h6, .ref h7, .ref h8, .ref h9, .ref h10, .ref h11, .ref h12, .int (-1), .int 0, .int 0, .int (-1), .int (-1)])), (h1, .inr (10, [.ref h13, .int 0, .int 0, .int 0])), (h13, .inl (k0, 200, .inl (fun _ => 0)))]) (w1 := []) hP_2 hD_2 [] [0, 1, 2] rfl rfl (by decide) (by decide) hk_3 hFc_3 hP1_3 hD1_3
    have hK_3 := (hK_2.sub (tys' := [(k0, .int)]) [0] rfl).app hK1_3
    have hK_3 : va_K (dC, dI) vwCl [(k0, .int)] s := hK_3
    have hP_3 : va_P (dC, dI) vwCl [(h0, .inr (14, [.ref h1, .ref h2, .ref h3, .ref h4, .int 0, .ref h5, .ref h6, .ref h7, .ref h8, .ref h9, .ref h10, .ref h11, .ref h12, .int (-1), .int 0, .int 0, .int (-1), .int (-1)])), (h1, .inr (10, [.ref h13, .int 0, .int 0, .int 0])), (h13, .inl (k0, 200, .inl (fun _ => 0)))] H_3 := hP_3
    have hD_3 : va_D A [(h0, .inr (14, [.ref h1, .ref h2, .ref h3, .ref h4, .int 0, .ref h5, .ref h6, .ref h7, .ref h8, .ref h9, .ref h10, .ref h11, .ref h12, .int (-1), .int 0, .int 0, .int (-1), .int (-1)])), (h1, .inr (10, [.ref h13, .int 0, .int 0, .int 0])), (h13, .inl (k0, 200, .inl (fun _ => 0)))] := hD_3
    clear hP_2 hD_2 hS_2 hK_2 hPc_3 hDc_3 hKc_3 hFc_3 hP1_3 hK1_3 hD1_3 hk_3 hz_3
    refine lv_if_ne (tgt := 38) hx hb dX11_feed_32 (by decide) (fun c_ => absurd (by decide) c_) (fun _ => ?_)
    refine lv_bipush (v := (-4)) hx hb dX11_feed_35 (by decide) ?_
    have hP9 := hP_3.sub (ws' := []) [] rfl
    have hD9 := hD_3.sub (ws' := []) [] (by decide) rfl
    have hK9 := hK_3.sub (tys' := []) [] rfl
    refine W.widen (k := 0) (n := 0) (by decide) (by decide) ?_
    exact W.iret (v := (-4)) hx hb hr (fun t9 ht9 hW9 => ⟨⟨(-4), 0, rfl, (Or.inl ⟨rfl, rfl, (fun h => h.1 cc_3_0)⟩), ⟨by rw [ht9]; exact hP9, va_K.moved hW9.alike hK9, hD9⟩⟩, hS_3.F ht9⟩) hS_3.2.2 dX11_feed_37
  · obtain ⟨hP1_3, hK1_3, hD1_3⟩ := hB_3
    rw [ht_3] at hP1_3
    have hK1_3 := va_K.moved hvm_3.symm hK1_3
    obtain ⟨hP_3, hD_3⟩ := va_join (wr := [(h0, .inr (14, [.ref h1, .ref h2, .ref h3, .ref h4, .int 0, .ref h5, .ref h6, .ref h7, .ref h8, .ref h9, .ref h10, .ref h11, .ref h12, .int (-1), .int 0, .int 0, .int (-1), .int (-1)])), (h1, .inr (10, [.ref h13, .int 0, .int 0, .int 0])), (h13, .inl (k0, 200, .inl (fun _ => 0)))]) (w1 := []) hP_2 hD_2 [] [0, 1, 2] rfl rfl (by decide) (by decide) hk_3 hFc_3 hP1_3 hD1_3
    have hK_3 := (hK_2.sub (tys' := [(k0, .int)]) [0] rfl).app hK1_3
    have hK_3 : va_K (dC, dI) vwCl [(k0, .int)] s := hK_3
    have hP_3 : va_P (dC, dI) vwCl [(h0, .inr (14, [.ref h1, .ref h2, .ref h3, .ref h4, .int 0, .ref h5, .ref h6, .ref h7, .ref h8, .ref h9, .ref h10, .ref h11, .ref h12, .int (-1), .int 0, .int 0, .int (-1), .int (-1)])), (h1, .inr (10, [.ref h13, .int 0, .int 0, .int 0])), (h13, .inl (k0, 200, .inl (fun _ => 0)))] H_3 := hP_3
    have hD_3 : va_D A [(h0, .inr (14, [.ref h1, .ref h2, .ref h3, .ref h4, .int 0, .ref h5, .ref h6, .ref h7, .ref h8, .ref h9, .ref h10, .ref h11, .ref h12, .int (-1), .int 0, .int 0, .int (-1), .int (-1)])), (h1, .inr (10, [.ref h13, .int 0, .int 0, .int 0])), (h13, .inl (k0, 200, .inl (fun _ => 0)))] := hD_3
    clear hP_2 hD_2 hS_2 hK_2 hPc_3 hDc_3 hKc_3 hFc_3 hP1_3 hK1_3 hD1_3 hk_3 hz_3
    refine lv_if_ne (tgt := 38) hx hb dX11_feed_32 (by decide) (fun c_ => absurd (by decide) c_) (fun _ => ?_)
    refine lv_bipush (v := (-4)) hx hb dX11_feed_35 (by decide) ?_
    have hP9 := hP_3.sub (ws' := []) [] rfl
    have hD9 := hD_3.sub (ws' := []) [] (by decide) rfl
    have hK9 := hK_3.sub (tys' := []) [] rfl
    refine W.widen (k := 0) (n := 0) (by decide) (by decide) ?_
    exact W.iret (v := (-4)) hx hb hr (fun t9 ht9 hW9 => ⟨⟨(-4), 0, rfl, (Or.inl ⟨rfl, rfl, (fun h => h.2.1 cc_3_1)⟩), ⟨by rw [ht9]; exact hP9, va_K.moved hW9.alike hK9, hD9⟩⟩, hS_3.F ht9⟩) hS_3.2.2 dX11_feed_37
  · obtain ⟨hP1_3, hK1_3, hD1_3⟩ := hB_3
    rw [ht_3] at hP1_3
    have hK1_3 := va_K.moved hvm_3.symm hK1_3
    obtain ⟨hP_3, hD_3⟩ := va_join (wr := [(h0, .inr (14, [.ref h1, .ref h2, .ref h3, .ref h4, .int 0, .ref h5, .ref h6, .ref h7, .ref h8, .ref h9, .ref h10, .ref h11, .ref h12, .int (-1), .int 0, .int 0, .int (-1), .int (-1)])), (h1, .inr (10, [.ref h13, .int 0, .int 0, .int 0])), (h13, .inl (k0, 200, .inl (fun _ => 0)))]) (w1 := []) hP_2 hD_2 [] [0, 1, 2] rfl rfl (by decide) (by decide) hk_3 hFc_3 hP1_3 hD1_3
    have hK_3 := (hK_2.sub (tys' := [(k0, .int)]) [0] rfl).app hK1_3
    have hK_3 : va_K (dC, dI) vwCl [(k0, .int)] s := hK_3
    have hP_3 : va_P (dC, dI) vwCl [(h0, .inr (14, [.ref h1, .ref h2, .ref h3, .ref h4, .int 0, .ref h5, .ref h6, .ref h7, .ref h8, .ref h9, .ref h10, .ref h11, .ref h12, .int (-1), .int 0, .int 0, .int (-1), .int (-1)])), (h1, .inr (10, [.ref h13, .int 0, .int 0, .int 0])), (h13, .inl (k0, 200, .inl (fun _ => 0)))] H_3 := hP_3
    have hD_3 : va_D A [(h0, .inr (14, [.ref h1, .ref h2, .ref h3, .ref h4, .int 0, .ref h5, .ref h6, .ref h7, .ref h8, .ref h9, .ref h10, .ref h11, .ref h12, .int (-1), .int 0, .int 0, .int (-1), .int (-1)])), (h1, .inr (10, [.ref h13, .int 0, .int 0, .int 0])), (h13, .inl (k0, 200, .inl (fun _ => 0)))] := hD_3
    clear hP_2 hD_2 hS_2 hK_2 hPc_3 hDc_3 hKc_3 hFc_3 hP1_3 hK1_3 hD1_3 hk_3 hz_3
    refine lv_if_ne (tgt := 38) hx hb dX11_feed_32 (by decide) (fun _ => ?_) (fun c_ => absurd c_ (by decide))
    refine lv_iinc (v := 1) (lv' := [(4, .int 1), (0, .ref h0), (1, .int 2), (2, .long w0)]) hx hb dX11_feed_38 hl_1 (k := 0) rfl (by decide) (by decide) rfl (fun ls_4 hl_4 => ?_)
    clear hl_1
    refine lv_goto (tgt := 17) hx hb dX11_feed_41 (by decide) ?_
    refine lv_iload hx hb dX11_feed_17 (lv_at hl_4 0 rfl) ?_
    refine lv_iload_n hx hb dX11_feed_19 rfl (lv_at hl_4 2 rfl) ?_
    refine lv_icmp_ge (tgt := 44) hx hb dX11_feed_20 (by decide) (fun c_ => absurd c_ (by decide)) (fun _ => ?_)
    refine lv_lload_n hx hb dX11_feed_23 rfl (lv_at hl_4 3 rfl) ?_
    refine lv_iload hx hb dX11_feed_24 (lv_at hl_4 0 rfl) ?_
    have hPc_5 := hP_3.sub (ws' := []) [] rfl
    have hDc_5 := hD_3.sub (ws' := []) [] (by decide) rfl
    have hKc_5 := hK_3.sub (tys' := []) [] rfl
    have hFc_5 := va_free (wc := []) hD_3 hS_3 hA [] rfl
    refine va_calli (va_runS (As := [.long w0, .int 1]) (rest := []) ⟨hx, hb, hml, hown, ht⟩ (mt_X11_byteOf_v2 l dC dI w0 H_3.size) (cwS 2 ht (goodS tw_859 tw_860 tw_236 gw_X11_byteOf) rfl rfl rfl (by decide +kernel) ⟨Nat.le_of_ble_eq_true rfl, Nat.le_of_ble_eq_true rfl⟩) ⟨fun a U g mk q => by obtain ⟨q0, q1, qP, qK, qD⟩ := q; exact ⟨q0, q1, qP, va_K.moved (u := U) (U := U.calling g mk a) (Vm.Alike.refl U.vm) qK, qD⟩, fun U hU hW => ⟨rfl, by rw [hU], by rw [hU]; exact hPc_5, va_K.moved hW.alike hKc_5, hDc_5.weaken (fun _ _ _ _ => trivial)⟩⟩ rfl rfl hl_4.1 rfl (lv_room (Nat.le_of_ble_eq_true rfl)) dX11_feed_26 ⟨Nat.le_of_ble_eq_true rfl, Nat.le_of_ble_eq_true rfl⟩) hS_3 (fun q _ h => hFc_5 q h) hFc_5 (fun r_5 u_5 t_5 H_5 locs_5 ht_5 hvm_5 hw_5 hB_5 hz_5 hk_5 hS_5 => ?_)
    obtain ⟨rfl, rfl⟩ := hw_5
    obtain ⟨hP1_5, hK1_5, hD1_5⟩ := hB_5
    rw [ht_5] at hP1_5
    have hK1_5 := va_K.moved hvm_5.symm hK1_5
    obtain ⟨hP_5, hD_5⟩ := va_join (wr := [(h0, .inr (14, [.ref h1, .ref h2, .ref h3, .ref h4, .int 0, .ref h5, .ref h6, .ref h7, .ref h8, .ref h9, .ref h10, .ref h11, .ref h12, .int (-1), .int 0, .int 0, .int (-1), .int (-1)])), (h1, .inr (10, [.ref h13, .int 0, .int 0, .int 0])), (h13, .inl (k0, 200, .inl (fun _ => 0)))]) (w1 := []) hP_3 hD_3 [] [0, 1, 2] rfl rfl (by decide) (by decide) hk_5 hFc_5 hP1_5 hD1_5
    have hK_5 := (hK_3.sub (tys' := [(k0, .int)]) [0] rfl).app hK1_5
    have hK_5 : va_K (dC, dI) vwCl [(k0, .int)] s := hK_5
    have hP_5 : va_P (dC, dI) vwCl [(h0, .inr (14, [.ref h1, .ref h2, .ref h3, .ref h4, .int 0, .ref h5, .ref h6, .ref h7, .ref h8, .ref h9, .ref h10, .ref h11, .ref h12, .int (-1), .int 0, .int 0, .int (-1), .int (-1)])), (h1, .inr (10, [.ref h13, .int 0, .int 0, .int 0])), (h13, .inl (k0, 200, .inl (fun _ => 0)))] H_5 := hP_5
    have hD_5 : va_D A [(h0, .inr (14, [.ref h1, .ref h2, .ref h3, .ref h4, .int 0, .ref h5, .ref h6, .ref h7, .ref h8, .ref h9, .ref h10, .ref h11, .ref h12, .int (-1), .int 0, .int 0, .int (-1), .int (-1)])), (h1, .inr (10, [.ref h13, .int 0, .int 0, .int 0])), (h13, .inl (k0, 200, .inl (fun _ => 0)))] := hD_5
    clear hP_3 hD_3 hS_3 hK_3 hPc_5 hDc_5 hKc_5 hFc_5 hP1_5 hK1_5 hD1_5 hk_5 hz_5
    have hPc_6 := hP_5.sub (ws' := []) [] rfl
    have hDc_6 := hD_5.sub (ws' := []) [] (by decide) rfl
    have hKc_6 := hK_5.sub (tys' := []) [] rfl
    have hFc_6 := va_free (wc := []) hD_5 hS_5 hA [] rfl
    refine va_calli (va_runS (As := [.int (((w0.toUInt64 >>> ((8 : Int32).toInt64.toUInt64 &&& Int64.toUInt64 63)).toInt64).toInt32 &&& 255)]) (rest := []) ⟨hx, hb, hml, hown, ht⟩ (mt_X11_isTapeSign l dC dI (((w0.toUInt64 >>> ((8 : Int32).toInt64.toUInt64 &&& Int64.toUInt64 63)).toInt64).toInt32 &&& 255) H_5.size) (cwS 1 ht (goodS tw_862 tw_863 tw_236 gw_X11_isTapeSign) rfl rfl rfl (by decide +kernel) ⟨Nat.le_of_ble_eq_true rfl, Nat.le_of_ble_eq_true rfl⟩) ⟨fun a U g mk q => by obtain ⟨q0, q1, qP, qK, qD⟩ := q; exact ⟨q0, q1, qP, va_K.moved (u := U) (U := U.calling g mk a) (Vm.Alike.refl U.vm) qK, qD⟩, fun U hU hW => ⟨rfl, by rw [hU], by rw [hU]; exact hPc_6, va_K.moved hW.alike hKc_6, hDc_6.weaken (fun _ _ _ _ => trivial)⟩⟩ rfl rfl hl_4.1 rfl (lv_room (Nat.le_of_ble_eq_true rfl)) dX11_feed_29 ⟨Nat.le_of_ble_eq_true rfl, Nat.le_of_ble_eq_true rfl⟩) hS_5 (fun q _ h => hFc_6 q h) hFc_6 (fun r_6 u_6 t_6 H_6 locs_6 ht_6 hvm_6 hw_6 hB_6 hz_6 hk_6 hS_6 => ?_)
    rcases hw_6 with ⟨rfl, rfl, cc_6_0⟩ | ⟨rfl, rfl, cc_6_0, cc_6_1⟩ | ⟨rfl, rfl, cc_6_0, cc_6_1⟩
    · obtain ⟨hP1_6, hK1_6, hD1_6⟩ := hB_6
      rw [ht_6] at hP1_6
      have hK1_6 := va_K.moved hvm_6.symm hK1_6
      obtain ⟨hP_6, hD_6⟩ := va_join (wr := [(h0, .inr (14, [.ref h1, .ref h2, .ref h3, .ref h4, .int 0, .ref h5, .ref h6, .ref h7, .ref h8, .ref h9, .ref h10, .ref h11, .ref h12, .int (-1), .int 0, .int 0, .int (-1), .int (-1)])), (h1, .inr (10, [.ref h13, .int 0, .int 0, .int 0])), (h13, .inl (k0, 200, .inl (fun _ => 0)))]) (w1 := []) hP_5 hD_5 [] [0, 1, 2] rfl rfl (by decide) (by decide) hk_6 hFc_6 hP1_6 hD1_6
      have hK_6 := (hK_5.sub (tys' := [(k0, .int)]) [0] rfl).app hK1_6
      have hK_6 : va_K (dC, dI) vwCl [(k0, .int)] s := hK_6
      have hP_6 : va_P (dC, dI) vwCl [(h0, .inr (14, [.ref h1, .ref h2, .ref h3, .ref h4, .int 0, .ref h5, .ref h6, .ref h7, .ref h8, .ref h9, .ref h10, .ref h11, .ref h12, .int (-1), .int 0, .int 0, .int (-1), .int (-1)])), (h1, .inr (10, [.ref h13, .int 0, .int 0, .int 0])), (h13, .inl (k0, 200, .inl (fun _ => 0)))] H_6 := hP_6
      have hD_6 : va_D A [(h0, .inr (14, [.ref h1, .ref h2, .ref h3, .ref h4, .int 0, .ref h5, .ref h6, .ref h7, .ref h8, .ref h9, .ref h10, .ref h11, .ref h12, .int (-1), .int 0, .int 0, .int (-1), .int (-1)])), (h1, .inr (10, [.ref h13, .int 0, .int 0, .int 0])), (h13, .inl (k0, 200, .inl (fun _ => 0)))] := hD_6
      clear hP_5 hD_5 hS_5 hK_5 hPc_6 hDc_6 hKc_6 hFc_6 hP1_6 hK1_6 hD1_6 hk_6 hz_6
      refine lv_if_ne (tgt := 38) hx hb dX11_feed_32 (by decide) (fun c_ => absurd (by decide) c_) (fun _ => ?_)
      refine lv_bipush (v := (-4)) hx hb dX11_feed_35 (by decide) ?_
      have hP9 := hP_6.sub (ws' := []) [] rfl
      have hD9 := hD_6.sub (ws' := []) [] (by decide) rfl
      have hK9 := hK_6.sub (tys' := []) [] rfl
      refine W.widen (k := 0) (n := 0) (by decide) (by decide) ?_
      exact W.iret (v := (-4)) hx hb hr (fun t9 ht9 hW9 => ⟨⟨(-4), 0, rfl, (Or.inl ⟨rfl, rfl, (fun h => h.2.2.1 cc_6_0)⟩), ⟨by rw [ht9]; exact hP9, va_K.moved hW9.alike hK9, hD9⟩⟩, hS_6.F ht9⟩) hS_6.2.2 dX11_feed_37
    · obtain ⟨hP1_6, hK1_6, hD1_6⟩ := hB_6
      rw [ht_6] at hP1_6
      have hK1_6 := va_K.moved hvm_6.symm hK1_6
      obtain ⟨hP_6, hD_6⟩ := va_join (wr := [(h0, .inr (14, [.ref h1, .ref h2, .ref h3, .ref h4, .int 0, .ref h5, .ref h6, .ref h7, .ref h8, .ref h9, .ref h10, .ref h11, .ref h12, .int (-1), .int 0, .int 0, .int (-1), .int (-1)])), (h1, .inr (10, [.ref h13, .int 0, .int 0, .int 0])), (h13, .inl (k0, 200, .inl (fun _ => 0)))]) (w1 := []) hP_5 hD_5 [] [0, 1, 2] rfl rfl (by decide) (by decide) hk_6 hFc_6 hP1_6 hD1_6
      have hK_6 := (hK_5.sub (tys' := [(k0, .int)]) [0] rfl).app hK1_6
      have hK_6 : va_K (dC, dI) vwCl [(k0, .int)] s := hK_6
      have hP_6 : va_P (dC, dI) vwCl [(h0, .inr (14, [.ref h1, .ref h2, .ref h3, .ref h4, .int 0, .ref h5, .ref h6, .ref h7, .ref h8, .ref h9, .ref h10, .ref h11, .ref h12, .int (-1), .int 0, .int 0, .int (-1), .int (-1)])), (h1, .inr (10, [.ref h13, .int 0, .int 0, .int 0])), (h13, .inl (k0, 200, .inl (fun _ => 0)))] H_6 := hP_6
      have hD_6 : va_D A [(h0, .inr (14, [.ref h1, .ref h2, .ref h3, .ref h4, .int 0, .ref h5, .ref h6, .ref h7, .ref h8, .ref h9, .ref h10, .ref h11, .ref h12, .int (-1), .int 0, .int 0, .int (-1), .int (-1)])), (h1, .inr (10, [.ref h13, .int 0, .int 0, .int 0])), (h13, .inl (k0, 200, .inl (fun _ => 0)))] := hD_6
      clear hP_5 hD_5 hS_5 hK_5 hPc_6 hDc_6 hKc_6 hFc_6 hP1_6 hK1_6 hD1_6 hk_6 hz_6
      refine lv_if_ne (tgt := 38) hx hb dX11_feed_32 (by decide) (fun c_ => absurd (by decide) c_) (fun _ => ?_)
      refine lv_bipush (v := (-4)) hx hb dX11_feed_35 (by decide) ?_
      have hP9 := hP_6.sub (ws' := []) [] rfl
      have hD9 := hD_6.sub (ws' := []) [] (by decide) rfl
      have hK9 := hK_6.sub (tys' := []) [] rfl
      refine W.widen (k := 0) (n := 0) (by decide) (by decide) ?_
      exact W.iret (v := (-4)) hx hb hr (fun t9 ht9 hW9 => ⟨⟨(-4), 0, rfl, (Or.inl ⟨rfl, rfl, (fun h => h.2.2.2 cc_6_1)⟩), ⟨by rw [ht9]; exact hP9, va_K.moved hW9.alike hK9, hD9⟩⟩, hS_6.F ht9⟩) hS_6.2.2 dX11_feed_37
    · obtain ⟨hP1_6, hK1_6, hD1_6⟩ := hB_6
      rw [ht_6] at hP1_6
      have hK1_6 := va_K.moved hvm_6.symm hK1_6
      obtain ⟨hP_6, hD_6⟩ := va_join (wr := [(h0, .inr (14, [.ref h1, .ref h2, .ref h3, .ref h4, .int 0, .ref h5, .ref h6, .ref h7, .ref h8, .ref h9, .ref h10, .ref h11, .ref h12, .int (-1), .int 0, .int 0, .int (-1), .int (-1)])), (h1, .inr (10, [.ref h13, .int 0, .int 0, .int 0])), (h13, .inl (k0, 200, .inl (fun _ => 0)))]) (w1 := []) hP_5 hD_5 [] [0, 1, 2] rfl rfl (by decide) (by decide) hk_6 hFc_6 hP1_6 hD1_6
      have hK_6 := (hK_5.sub (tys' := [(k0, .int)]) [0] rfl).app hK1_6
      have hK_6 : va_K (dC, dI) vwCl [(k0, .int)] s := hK_6
      have hP_6 : va_P (dC, dI) vwCl [(h0, .inr (14, [.ref h1, .ref h2, .ref h3, .ref h4, .int 0, .ref h5, .ref h6, .ref h7, .ref h8, .ref h9, .ref h10, .ref h11, .ref h12, .int (-1), .int 0, .int 0, .int (-1), .int (-1)])), (h1, .inr (10, [.ref h13, .int 0, .int 0, .int 0])), (h13, .inl (k0, 200, .inl (fun _ => 0)))] H_6 := hP_6
      have hD_6 : va_D A [(h0, .inr (14, [.ref h1, .ref h2, .ref h3, .ref h4, .int 0, .ref h5, .ref h6, .ref h7, .ref h8, .ref h9, .ref h10, .ref h11, .ref h12, .int (-1), .int 0, .int 0, .int (-1), .int (-1)])), (h1, .inr (10, [.ref h13, .int 0, .int 0, .int 0])), (h13, .inl (k0, 200, .inl (fun _ => 0)))] := hD_6
      clear hP_5 hD_5 hS_5 hK_5 hPc_6 hDc_6 hKc_6 hFc_6 hP1_6 hK1_6 hD1_6 hk_6 hz_6
      refine lv_if_ne (tgt := 38) hx hb dX11_feed_32 (by decide) (fun _ => ?_) (fun c_ => absurd c_ (by decide))
      refine lv_iinc (v := 2) (lv' := [(4, .int 2), (0, .ref h0), (1, .int 2), (2, .long w0)]) hx hb dX11_feed_38 hl_4 (k := 0) rfl (by decide) (by decide) rfl (fun ls_7 hl_7 => ?_)
      clear hl_4
      refine lv_goto (tgt := 17) hx hb dX11_feed_41 (by decide) ?_
      refine lv_iload hx hb dX11_feed_17 (lv_at hl_7 0 rfl) ?_
      refine lv_iload_n hx hb dX11_feed_19 rfl (lv_at hl_7 2 rfl) ?_
      refine lv_icmp_ge (tgt := 44) hx hb dX11_feed_20 (by decide) (fun _ => ?_) (fun c_ => absurd (by decide) c_)
      refine lv_aload_n hx hb dX11_feed_44 rfl (lv_at hl_7 1 rfl) ?_
      refine va_get (D := (dC, dI)) (ci := 14) (v := .ref h1) (C := RX11) (T := TX11) (N := 18) hx hb ht inX11 hown hK_6 hP_6 0 rfl rfl 0 (by decide) (ht _ tw_800) (fun _ h9 => h9) rfl dX11_feed_45 ?_
      refine va_get (D := (dC, dI)) (ci := 10) (v := .int 0) (C := RX7) (T := TX7) (N := 4) hx hb ht inX7 hown hK_6 hP_6 1 rfl rfl 1 (by decide) (ht _ tw_278) (fun _ h9 => h9) rfl dX11_feed_48 ?_
      refine lv_iload_n hx hb dX11_feed_51 rfl (lv_at hl_7 2 rfl) ?_
      refine lv_iadd hx hb dX11_feed_52 ?_
      refine lv_topi (fun x_8 ex_8 => ?_)
      obtain rfl : x_8 = 2 := ex_8.trans (by decide)
      refine lv_sipush (v := 200) hx hb dX11_feed_53 (by decide) ?_
      refine lv_icmp_le (tgt := 62) hx hb dX11_feed_56 (by decide) (fun _ => ?_) (fun c_ => absurd (by decide) c_)
      refine lv_iload_n hx hb dX11_feed_62 rfl (lv_at hl_7 2 rfl) ?_
      refine lv_iconst (v := 1) hx hb dX11_feed_63 (by decide) ?_
      refine lv_isub hx hb dX11_feed_64 ?_
      refine lv_topi (fun x_9 ex_9 => ?_)
      obtain rfl : x_9 = 1 := ex_9.trans (by decide)
      refine lv_istore (lv' := [(4, .int 1), (0, .ref h0), (1, .int 2), (2, .long w0)]) hx hb dX11_feed_65 hl_7 (by decide) rfl (fun ls_10 hl_10 => ?_)
      clear hl_7
      refine lv_iload hx hb dX11_feed_67 (lv_at hl_10 0 rfl) ?_
      refine lv_if_lt (tgt := 91) hx hb dX11_feed_69 (by decide) (fun c_ => absurd c_ (by decide)) (fun _ => ?_)
      refine lv_aload_n hx hb dX11_feed_72 rfl (lv_at hl_10 1 rfl) ?_
      refine va_get (D := (dC, dI)) (ci := 14) (v := .ref h1) (C := RX11) (T := TX11) (N := 18) hx hb ht inX11 hown hK_6 hP_6 0 rfl rfl 0 (by decide) (ht _ tw_800) (fun _ h9 => h9) rfl dX11_feed_73 ?_
      refine lv_lload_n hx hb dX11_feed_76 rfl (lv_at hl_10 3 rfl) ?_
      refine lv_iload hx hb dX11_feed_77 (lv_at hl_10 0 rfl) ?_
      have hPc_11 := hP_6.sub (ws' := []) [] rfl
      have hDc_11 := hD_6.sub (ws' := []) [] (by decide) rfl
      have hKc_11 := hK_6.sub (tys' := []) [] rfl
      have hFc_11 := va_free (wc := []) hD_6 hS_6 hA [] rfl
      refine va_calli (va_runS (As := [.long w0, .int 1]) (rest := [.ref h1]) ⟨hx, hb, hml, hown, ht⟩ (mt_X11_byteOf_v2 l dC dI w0 H_6.size) (cwS 2 ht (goodS tw_859 tw_860 tw_236 gw_X11_byteOf) rfl rfl rfl (by decide +kernel) ⟨Nat.le_of_ble_eq_true rfl, Nat.le_of_ble_eq_true rfl⟩) ⟨fun a U g mk q => by obtain ⟨q0, q1, qP, qK, qD⟩ := q; exact ⟨q0, q1, qP, va_K.moved (u := U) (U := U.calling g mk a) (Vm.Alike.refl U.vm) qK, qD⟩, fun U hU hW => ⟨rfl, by rw [hU], by rw [hU]; exact hPc_11, va_K.moved hW.alike hKc_11, hDc_11.weaken (fun _ _ _ _ => trivial)⟩⟩ rfl rfl hl_10.1 rfl (lv_room (Nat.le_of_ble_eq_true rfl)) dX11_feed_79 ⟨Nat.le_of_ble_eq_true rfl, Nat.le_of_ble_eq_true rfl⟩) hS_6 (fun q _ h => hFc_11 q h) hFc_11 (fun r_11 u_11 t_11 H_11 locs_11 ht_11 hvm_11 hw_11 hB_11 hz_11 hk_11 hS_11 => ?_)
      obtain ⟨rfl, rfl⟩ := hw_11
      obtain ⟨hP1_11, hK1_11, hD1_11⟩ := hB_11
      rw [ht_11] at hP1_11
      have hK1_11 := va_K.moved hvm_11.symm hK1_11
      obtain ⟨hP_11, hD_11⟩ := va_join (wr := [(h0, .inr (14, [.ref h1, .ref h2, .ref h3, .ref h4, .int 0, .ref h5, .ref h6, .ref h7, .ref h8, .ref h9, .ref h10, .ref h11, .ref h12, .int (-1), .int 0, .int 0, .int (-1), .int (-1)])), (h1, .inr (10, [.ref h13, .int 0, .int 0, .int 0])), (h13, .inl (k0, 200, .inl (fun _ => 0)))]) (w1 := []) hP_6 hD_6 [] [0, 1, 2] rfl rfl (by decide) (by decide) hk_11 hFc_11 hP1_11 hD1_11
      have hK_11 := (hK_6.sub (tys' := [(k0, .int)]) [0] rfl).app hK1_11
      have hK_11 : va_K (dC, dI) vwCl [(k0, .int)] s := hK_11
      have hP_11 : va_P (dC, dI) vwCl [(h0, .inr (14, [.ref h1, .ref h2, .ref h3, .ref h4, .int 0, .ref h5, .ref h6, .ref h7, .ref h8, .ref h9, .ref h10, .ref h11, .ref h12, .int (-1), .int 0, .int 0, .int (-1), .int (-1)])), (h1, .inr (10, [.ref h13, .int 0, .int 0, .int 0])), (h13, .inl (k0, 200, .inl (fun _ => 0)))] H_11 := hP_11
      have hD_11 : va_D A [(h0, .inr (14, [.ref h1, .ref h2, .ref h3, .ref h4, .int 0, .ref h5, .ref h6, .ref h7, .ref h8, .ref h9, .ref h10, .ref h11, .ref h12, .int (-1), .int 0, .int 0, .int (-1), .int (-1)])), (h1, .inr (10, [.ref h13, .int 0, .int 0, .int 0])), (h13, .inl (k0, 200, .inl (fun _ => 0)))] := hD_11
      clear hP_6 hD_6 hS_6 hK_6 hPc_11 hDc_11 hKc_11 hFc_11 hP1_11 hK1_11 hD1_11 hk_11 hz_11
      have hPc_12 := hP_11.sub (ws' := [(h1, .inr (10, [.ref h13, .int 0, .int 0, .int 0])), (h13, .inl (k0, 200, .inl (fun _ => 0)))]) [1, 2] rfl
      have hDc_12 := hD_11.sub (ws' := [(h1, .inr (10, [.ref h13, .int 0, .int 0, .int 0])), (h13, .inl (k0, 200, .inl (fun _ => 0)))]) [1, 2] (by decide) rfl
      have hKc_12 := hK_11.sub (tys' := [(k0, .int)]) [0] rfl
      have hFc_12 := va_free (wc := [(h1, .inr (10, [.ref h13, .int 0, .int 0, .int 0])), (h13, .inl (k0, 200, .inl (fun _ => 0)))]) hD_11 hS_11 hA [1, 2] rfl
      refine va_callv (va_runV (As := [.int (((w0.toUInt64 >>> ((8 : Int32).toInt64.toUInt64 &&& Int64.toUInt64 63)).toInt64).toInt32 &&& 255)]) (rest := []) ⟨hx, hb, hml, hown, ht⟩ (mt_X7_add l dC dI h1 h13 k0 (((w0.toUInt64 >>> ((8 : Int32).toInt64.toUInt64 &&& Int64.toUInt64 63)).toInt64).toInt32 &&& 255) H_11.size) (cwV 1 ht (goodV tw_865 tw_866 tw_867 tw_237 gw_X7_add) rfl rfl rfl (by decide +kernel) ⟨Nat.le_of_ble_eq_true rfl, Nat.le_of_ble_eq_true rfl⟩) ⟨fun a U g mk q => by obtain ⟨q0, q1, qP, qK, qD⟩ := q; exact ⟨q0, q1, qP, va_K.moved (u := U) (U := U.calling g mk a) (Vm.Alike.refl U.vm) qK, qD⟩, va_recv hKc_12 hPc_12 (ci := 10) (q0 := 0) rfl rfl, fun U hU hW => ⟨rfl, by rw [hU], by rw [hU]; exact hPc_12, va_K.moved hW.alike hKc_12, hDc_12.weaken (fun _ _ _ _ => trivial)⟩⟩ rfl rfl hl_10.1 rfl (lv_room (Nat.le_of_ble_eq_true rfl)) dX11_feed_82 ⟨Nat.le_of_ble_eq_true rfl, Nat.le_of_ble_eq_true rfl⟩) hS_11 (fun q _ h => hFc_12 q h) hFc_12 (fun u_12 t_12 H_12 locs_12 ht_12 hvm_12 hw_12 hB_12 hz_12 hk_12 hS_12 => ?_)
      obtain rfl := hw_12
      obtain ⟨hP1_12, hK1_12, hD1_12⟩ := hB_12
      rw [ht_12] at hP1_12
      have hK1_12 := va_K.moved hvm_12.symm hK1_12
      obtain ⟨hP_12, hD_12⟩ := va_join (wr := [(h0, .inr (14, [.ref h1, .ref h2, .ref h3, .ref h4, .int 0, .ref h5, .ref h6, .ref h7, .ref h8, .ref h9, .ref h10, .ref h11, .ref h12, .int (-1), .int 0, .int 0, .int (-1), .int (-1)]))]) (w1 := [(h1, .inr (10, [.ref h13, .int 1, .int 0, .int 0])), (h13, .inl (k0, 200, .inl (upd (fun _ => 0) 0 (((w0.toUInt64 >>> ((8 : Int32).toInt64.toUInt64 &&& Int64.toUInt64 63)).toInt64).toInt32 &&& 255))))]) hP_11 hD_11 [1, 2] [0] rfl rfl (by decide) (by decide) hk_12 hFc_12 hP1_12 hD1_12
      have hK_12 := (hK_11.sub (tys' := []) [] rfl).app hK1_12
      have hK_12 : va_K (dC, dI) vwCl [(k0, .int)] s := hK_12
      have hP_12 : va_P (dC, dI) vwCl [(h0, .inr (14, [.ref h1, .ref h2, .ref h3, .ref h4, .int 0, .ref h5, .ref h6, .ref h7, .ref h8, .ref h9, .ref h10, .ref h11, .ref h12, .int (-1), .int 0, .int 0, .int (-1), .int (-1)])), (h1, .inr (10, [.ref h13, .int 1, .int 0, .int 0])), (h13, .inl (k0, 200, .inl (upd (fun _ => 0) 0 (((w0.toUInt64 >>> ((8 : Int32).toInt64.toUInt64 &&& Int64.toUInt64 63)).toInt64).toInt32 &&& 255))))] H_12 := hP_12
      have hD_12 : va_D A [(h0, .inr (14, [.ref h1, .ref h2, .ref h3, .ref h4, .int 0, .ref h5, .ref h6, .ref h7, .ref h8, .ref h9, .ref h10, .ref h11, .ref h12, .int (-1), .int 0, .int 0, .int (-1), .int (-1)])), (h1, .inr (10, [.ref h13, .int 1, .int 0, .int 0])), (h13, .inl (k0, 200, .inl (upd (fun _ => 0) 0 (((w0.toUInt64 >>> ((8 : Int32).toInt64.toUInt64 &&& Int64.toUInt64 63)).toInt64).toInt32 &&& 255))))] := hD_12
      clear hP_11 hD_11 hS_11 hK_11 hPc_12 hDc_12 hKc_12 hFc_12 hP1_12 hK1_12 hD1_12 hk_12 hz_12
      refine lv_iinc (v := 0) (lv' := [(4, .int 0), (0, .ref h0), (1, .int 2), (2, .long w0)]) hx hb dX11_feed_85 hl_10 (k := 0) rfl (by decide) (by decide) rfl (fun ls_13 hl_13 => ?_)
      clear hl_10
      refine lv_goto (tgt := 67) hx hb dX11_feed_88 (by decide) ?_
      refine lv_iload hx hb dX11_feed_67 (lv_at hl_13 0 rfl) ?_
      refine lv_if_lt (tgt := 91) hx hb dX11_feed_69 (by decide) (fun c_ => absurd c_ (by decide)) (fun _ => ?_)
      refine lv_aload_n hx hb dX11_feed_72 rfl (lv_at hl_13 1 rfl) ?_
      refine va_get (D := (dC, dI)) (ci := 14) (v := .ref h1) (C := RX11) (T := TX11) (N := 18) hx hb ht inX11 hown hK_12 hP_12 0 rfl rfl 0 (by decide) (ht _ tw_800) (fun _ h9 => h9) rfl dX11_feed_73 ?_
      refine lv_lload_n hx hb dX11_feed_76 rfl (lv_at hl_13 3 rfl) ?_
      refine lv_iload hx hb dX11_feed_77 (lv_at hl_13 0 rfl) ?_
      have hPc_14 := hP_12.sub (ws' := []) [] rfl
      have hDc_14 := hD_12.sub (ws' := []) [] (by decide) rfl
      have hKc_14 := hK_12.sub (tys' := []) [] rfl
      have hFc_14 := va_free (wc := []) hD_12 hS_12 hA [] rfl
      refine va_calli (va_runS (As := [.long w0, .int 0]) (rest := [.ref h1]) ⟨hx, hb, hml, hown, ht⟩ (mt_X11_byteOf l dC dI w0 H_12.size) (cwS 2 ht (goodS tw_859 tw_860 tw_236 gw_X11_byteOf) rfl rfl rfl (by decide +kernel) ⟨Nat.le_of_ble_eq_true rfl, Nat.le_of_ble_eq_true rfl⟩) ⟨fun a U g mk q => by obtain ⟨q0, q1, qP, qK, qD⟩ := q; exact ⟨q0, q1, qP, va_K.moved (u := U) (U := U.calling g mk a) (Vm.Alike.refl U.vm) qK, qD⟩, fun U hU hW => ⟨rfl, by rw [hU], by rw [hU]; exact hPc_14, va_K.moved hW.alike hKc_14, hDc_14.weaken (fun _ _ _ _ => trivial)⟩⟩ rfl rfl hl_13.1 rfl (lv_room (Nat.le_of_ble_eq_true rfl)) dX11_feed_79 ⟨Nat.le_of_ble_eq_true rfl, Nat.le_of_ble_eq_true rfl⟩) hS_12 (fun q _ h => hFc_14 q h) hFc_14 (fun r_14 u_14 t_14 H_14 locs_14 ht_14 hvm_14 hw_14 hB_14 hz_14 hk_14 hS_14 => ?_)
      obtain ⟨rfl, rfl⟩ := hw_14
      obtain ⟨hP1_14, hK1_14, hD1_14⟩ := hB_14
      rw [ht_14] at hP1_14
      have hK1_14 := va_K.moved hvm_14.symm hK1_14
      obtain ⟨hP_14, hD_14⟩ := va_join (wr := [(h0, .inr (14, [.ref h1, .ref h2, .ref h3, .ref h4, .int 0, .ref h5, .ref h6, .ref h7, .ref h8, .ref h9, .ref h10, .ref h11, .ref h12, .int (-1), .int 0, .int 0, .int (-1), .int (-1)])), (h1, .inr (10, [.ref h13, .int 1, .int 0, .int 0])), (h13, .inl (k0, 200, .inl (upd (fun _ => 0) 0 (((w0.toUInt64 >>> ((8 : Int32).toInt64.toUInt64 &&& Int64.toUInt64 63)).toInt64).toInt32 &&& 255))))]) (w1 := []) hP_12 hD_12 [] [0, 1, 2] rfl rfl (by decide) (by decide) hk_14 hFc_14 hP1_14 hD1_14
      have hK_14 := (hK_12.sub (tys' := [(k0, .int)]) [0] rfl).app hK1_14
      have hK_14 : va_K (dC, dI) vwCl [(k0, .int)] s := hK_14
      have hP_14 : va_P (dC, dI) vwCl [(h0, .inr (14, [.ref h1, .ref h2, .ref h3, .ref h4, .int 0, .ref h5, .ref h6, .ref h7, .ref h8, .ref h9, .ref h10, .ref h11, .ref h12, .int (-1), .int 0, .int 0, .int (-1), .int (-1)])), (h1, .inr (10, [.ref h13, .int 1, .int 0, .int 0])), (h13, .inl (k0, 200, .inl (upd (fun _ => 0) 0 (((w0.toUInt64 >>> ((8 : Int32).toInt64.toUInt64 &&& Int64.toUInt64 63)).toInt64).toInt32 &&& 255))))] H_14 := hP_14
      have hD_14 : va_D A [(h0, .inr (14, [.ref h1, .ref h2, .ref h3, .ref h4, .int 0, .ref h5, .ref h6, .ref h7, .ref h8, .ref h9, .ref h10, .ref h11, .ref h12, .int (-1), .int 0, .int 0, .int (-1), .int (-1)])), (h1, .inr (10, [.ref h13, .int 1, .int 0, .int 0])), (h13, .inl (k0, 200, .inl (upd (fun _ => 0) 0 (((w0.toUInt64 >>> ((8 : Int32).toInt64.toUInt64 &&& Int64.toUInt64 63)).toInt64).toInt32 &&& 255))))] := hD_14
      clear hP_12 hD_12 hS_12 hK_12 hPc_14 hDc_14 hKc_14 hFc_14 hP1_14 hK1_14 hD1_14 hk_14 hz_14
      have hPc_15 := hP_14.sub (ws' := [(h1, .inr (10, [.ref h13, .int 1, .int 0, .int 0])), (h13, .inl (k0, 200, .inl (upd (fun _ => 0) 0 (((w0.toUInt64 >>> ((8 : Int32).toInt64.toUInt64 &&& Int64.toUInt64 63)).toInt64).toInt32 &&& 255))))]) [1, 2] rfl
      have hDc_15 := hD_14.sub (ws' := [(h1, .inr (10, [.ref h13, .int 1, .int 0, .int 0])), (h13, .inl (k0, 200, .inl (upd (fun _ => 0) 0 (((w0.toUInt64 >>> ((8 : Int32).toInt64.toUInt64 &&& Int64.toUInt64 63)).toInt64).toInt32 &&& 255))))]) [1, 2] (by decide) rfl
      have hKc_15 := hK_14.sub (tys' := [(k0, .int)]) [0] rfl
      have hFc_15 := va_free (wc := [(h1, .inr (10, [.ref h13, .int 1, .int 0, .int 0])), (h13, .inl (k0, 200, .inl (upd (fun _ => 0) 0 (((w0.toUInt64 >>> ((8 : Int32).toInt64.toUInt64 &&& Int64.toUInt64 63)).toInt64).toInt32 &&& 255))))]) hD_14 hS_14 hA [1, 2] rfl
      refine va_callv (va_runV (As := [.int (((w0.toUInt64 >>> ((0 : Int32).toInt64.toUInt64 &&& Int64.toUInt64 63)).toInt64).toInt32 &&& 255)]) (rest := []) ⟨hx, hb, hml, hown, ht⟩ (mt_X7_add_v2 l dC dI h1 h13 k0 (((w0.toUInt64 >>> ((0 : Int32).toInt64.toUInt64 &&& Int64.toUInt64 63)).toInt64).toInt32 &&& 255) (((w0.toUInt64 >>> ((8 : Int32).toInt64.toUInt64 &&& Int64.toUInt64 63)).toInt64).toInt32 &&& 255) H_14.size) (cwV 1 ht (goodV tw_865 tw_866 tw_867 tw_237 gw_X7_add) rfl rfl rfl (by decide +kernel) ⟨Nat.le_of_ble_eq_true rfl, Nat.le_of_ble_eq_true rfl⟩) ⟨fun a U g mk q => by obtain ⟨q0, q1, qP, qK, qD⟩ := q; exact ⟨q0, q1, qP, va_K.moved (u := U) (U := U.calling g mk a) (Vm.Alike.refl U.vm) qK, qD⟩, va_recv hKc_15 hPc_15 (ci := 10) (q0 := 0) rfl rfl, fun U hU hW => ⟨rfl, by rw [hU], by rw [hU]; exact hPc_15, va_K.moved hW.alike hKc_15, hDc_15.weaken (fun _ _ _ _ => trivial)⟩⟩ rfl rfl hl_13.1 rfl (lv_room (Nat.le_of_ble_eq_true rfl)) dX11_feed_82 ⟨Nat.le_of_ble_eq_true rfl, Nat.le_of_ble_eq_true rfl⟩) hS_14 (fun q _ h => hFc_15 q h) hFc_15 (fun u_15 t_15 H_15 locs_15 ht_15 hvm_15 hw_15 hB_15 hz_15 hk_15 hS_15 => ?_)
      obtain rfl := hw_15
      obtain ⟨hP1_15, hK1_15, hD1_15⟩ := hB_15
      rw [ht_15] at hP1_15
      have hK1_15 := va_K.moved hvm_15.symm hK1_15
      obtain ⟨hP_15, hD_15⟩ := va_join (wr := [(h0, .inr (14, [.ref h1, .ref h2, .ref h3, .ref h4, .int 0, .ref h5, .ref h6, .ref h7, .ref h8, .ref h9, .ref h10, .ref h11, .ref h12, .int (-1), .int 0, .int 0, .int (-1), .int (-1)]))]) (w1 := [(h1, .inr (10, [.ref h13, .int 2, .int 0, .int 0])), (h13, .inl (k0, 200, .inl (upd (upd (fun _ => 0) 0 (((w0.toUInt64 >>> ((8 : Int32).toInt64.toUInt64 &&& Int64.toUInt64 63)).toInt64).toInt32 &&& 255)) 1 (((w0.toUInt64 >>> ((0 : Int32).toInt64.toUInt64 &&& Int64.toUInt64 63)).toInt64).toInt32 &&& 255))))]) hP_14 hD_14 [1, 2] [0] rfl rfl (by decide) (by decide) hk_15 hFc_15 hP1_15 hD1_15
      have hK_15 := (hK_14.sub (tys' := []) [] rfl).app hK1_15
      have hK_15 : va_K (dC, dI) vwCl [(k0, .int)] s := hK_15
      have hP_15 : va_P (dC, dI) vwCl [(h0, .inr (14, [.ref h1, .ref h2, .ref h3, .ref h4, .int 0, .ref h5, .ref h6, .ref h7, .ref h8, .ref h9, .ref h10, .ref h11, .ref h12, .int (-1), .int 0, .int 0, .int (-1), .int (-1)])), (h1, .inr (10, [.ref h13, .int 2, .int 0, .int 0])), (h13, .inl (k0, 200, .inl (upd (upd (fun _ => 0) 0 (((w0.toUInt64 >>> ((8 : Int32).toInt64.toUInt64 &&& Int64.toUInt64 63)).toInt64).toInt32 &&& 255)) 1 (((w0.toUInt64 >>> ((0 : Int32).toInt64.toUInt64 &&& Int64.toUInt64 63)).toInt64).toInt32 &&& 255))))] H_15 := hP_15
      have hD_15 : va_D A [(h0, .inr (14, [.ref h1, .ref h2, .ref h3, .ref h4, .int 0, .ref h5, .ref h6, .ref h7, .ref h8, .ref h9, .ref h10, .ref h11, .ref h12, .int (-1), .int 0, .int 0, .int (-1), .int (-1)])), (h1, .inr (10, [.ref h13, .int 2, .int 0, .int 0])), (h13, .inl (k0, 200, .inl (upd (upd (fun _ => 0) 0 (((w0.toUInt64 >>> ((8 : Int32).toInt64.toUInt64 &&& Int64.toUInt64 63)).toInt64).toInt32 &&& 255)) 1 (((w0.toUInt64 >>> ((0 : Int32).toInt64.toUInt64 &&& Int64.toUInt64 63)).toInt64).toInt32 &&& 255))))] := hD_15
      clear hP_14 hD_14 hS_14 hK_14 hPc_15 hDc_15 hKc_15 hFc_15 hP1_15 hK1_15 hD1_15 hk_15 hz_15
      refine lv_iinc (v := (-1)) (lv' := [(4, .int (-1)), (0, .ref h0), (1, .int 2), (2, .long w0)]) hx hb dX11_feed_85 hl_13 (k := 0) rfl (by decide) (by decide) rfl (fun ls_16 hl_16 => ?_)
      clear hl_13
      refine lv_goto (tgt := 67) hx hb dX11_feed_88 (by decide) ?_
      refine lv_iload hx hb dX11_feed_67 (lv_at hl_16 0 rfl) ?_
      refine lv_if_lt (tgt := 91) hx hb dX11_feed_69 (by decide) (fun _ => ?_) (fun c_ => absurd (by decide) c_)
      refine lv_aload_n hx hb dX11_feed_91 rfl (lv_at hl_16 1 rfl) ?_
      refine va_get (D := (dC, dI)) (ci := 14) (v := .ref h1) (C := RX11) (T := TX11) (N := 18) hx hb ht inX11 hown hK_15 hP_15 0 rfl rfl 0 (by decide) (ht _ tw_800) (fun _ h9 => h9) rfl dX11_feed_92 ?_
      refine va_get (D := (dC, dI)) (ci := 10) (v := .int 2) (C := RX7) (T := TX7) (N := 4) hx hb ht inX7 hown hK_15 hP_15 1 rfl rfl 1 (by decide) (ht _ tw_278) (fun _ h9 => h9) rfl dX11_feed_95 ?_
      have hP9 := hP_15.sub (ws' := []) [] rfl
      have hD9 := hD_15.sub (ws' := []) [] (by decide) rfl
      have hK9 := hK_15.sub (tys' := []) [] rfl
      refine W.widen (k := 0) (n := 0) (by decide) (by decide) ?_
      exact W.iret (v := 2) hx hb hr (fun t9 ht9 hW9 => ⟨⟨2, 1, rfl, (Or.inr ⟨rfl, rfl, ⟨cc_3_0, cc_3_1, cc_6_0, cc_6_1⟩⟩), ⟨by rw [ht9]; exact hP9, va_K.moved hW9.alike hK9, hD9⟩⟩, hS_15.F ht9⟩) hS_15.2.2 dX11_feed_98
set_option maxHeartbeats 4000000 in
set_option maxRecDepth 100000 in
theorem mt_X12_in_v8 (l : Launch) (dC : Nat → ClassId) (dI : Nat → Nat → Nat) (sz : Nat) : Met l yX12_in (WS yX12_in cX12_in 3 (some (.boolean))) ({ frames := 0, cells := 0, slots := 0, locals := 0 }) (va_Pc [.int 2, .int 1, .int 8] (fun U => U.heap.size = sz ∧ va_P (dC, dI) vwCl [] U.heap ∧ va_K (dC, dI) vwCl [] U ∧ va_D (fun _ => True) [])) (va_Qi (fun (r : Int32) (u : Nat) => (u = 0 ∧ r = 1)) (fun (_ : Nat) (t : State) => (va_P (dC, dI) vwCl [] t.heap ∧ va_K (dC, dI) vwCl [] t ∧ va_D (va_A [] sz) [])) (va_A [] sz)) 0 0 (va_A [] sz) := by
  refine Met.ofW (cc := cX12_in) (maxL := 3) (ret := (some (.boolean))) (by decide) rfl ?_
  intro p e s m args below meth c s₁ B hml hv
  obtain ⟨rfl, hsz, hP, hK, hD0⟩ := hv
  have hx := B.exec
  have hb := B.bytes
  have hr := B.returns
  have hts := atoms_spec (ws := WS yX12_in cX12_in 3 (some (.boolean))) B.pre
  have ht : ∀ w ∈ TW, w.before _ s = true := fun w h => hts w (List.mem_cons_of_mem _ h)
  have hown : s.vm.findClass "PatternWorkshopModel" = some m.cls := findClass_of_methodNamed B.named
  have hlocks := B.notSynchronized
  subst hsz
  have hD := hD0.self (sz := s.heap.size)
  generalize hAe : va_A [] s.heap.size = A at hD ⊢
  have hA : ∀ q : Nat, s.heap.size ≤ q → A q := fun q h => by rw [← hAe]; exact Or.inr h
  have hS : va_S A s.heap s.heap [] := va_S.rf
  have hP : va_P (dC, dI) vwCl [] s.heap := hP
  have hl := lv_entry ([.int 2, .int 1, .int 8]) (n := 3) (Nat.le_of_ble_eq_true rfl)
  rw [lg_entry_eq]
  generalize (lg_sl ([.int 2, .int 1, .int 8]) ++ List.replicate (3 - (lg_sl ([.int 2, .int 1, .int 8])).length) Slot.unset).toArray = ls at hl ⊢
  have hl : lv_has ls 3 [(0, .int 2), (1, .int 1), (2, .int 8)] := hl
  clear hD0
  refine lv_iload_n hx hb dX12_in_0 rfl (lv_at hl 0 rfl) ?_
  refine lv_iload_n hx hb dX12_in_1 rfl (lv_at hl 1 rfl) ?_
  refine lv_icmp_lt (tgt := 14) hx hb dX12_in_2 (by decide) (fun c_ => absurd c_ (by decide)) (fun _ => ?_)
  refine lv_iload_n hx hb dX12_in_5 rfl (lv_at hl 0 rfl) ?_
  refine lv_iload_n hx hb dX12_in_6 rfl (lv_at hl 2 rfl) ?_
  refine lv_icmp_gt (tgt := 14) hx hb dX12_in_7 (by decide) (fun c_ => absurd c_ (by decide)) (fun _ => ?_)
  refine lv_iconst (v := 1) hx hb dX12_in_10 (by decide) ?_
  refine lv_goto (tgt := 15) hx hb dX12_in_11 (by decide) ?_
  have hP9 := hP.sub (ws' := []) [] rfl
  have hD9 := hD.sub (ws' := []) [] (by decide) rfl
  have hK9 := hK.sub (tys' := []) [] rfl
  refine W.widen (k := 0) (n := 0) (by decide) (by decide) ?_
  exact W.zret (v := 1) hx hb hr rfl (fun t9 ht9 hW9 => ⟨⟨1, 0, rfl, ⟨rfl, rfl⟩, ⟨by rw [ht9]; exact hP9, va_K.moved hW9.alike hK9, hD9⟩⟩, hS.F ht9⟩) hS.2.2 dX12_in_15
def GM2 (w0 : Int64) : Prop := (¬ (((w0 >>> ((0 : Int32).toInt64 &&& 63)) &&& 255).toInt32) < 32) ∧ (¬ 126 < (((w0 >>> ((0 : Int32).toInt64 &&& 63)) &&& 255).toInt32)) ∧ (¬ (((w0 >>> ((8 : Int32).toInt64 &&& 63)) &&& 255).toInt32) < 32) ∧ (¬ 126 < (((w0 >>> ((8 : Int32).toInt64 &&& 63)) &&& 255).toInt32))
