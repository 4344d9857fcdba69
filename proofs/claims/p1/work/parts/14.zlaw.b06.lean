set_option maxHeartbeats 4000000 in
set_option maxRecDepth 100000 in
theorem mt_X11_feed_v6 (l : Launch) (dC : Nat → ClassId) (dI : Nat → Nat → Nat) (h0 h1 h2 h3 h4 h5 h6 h7 h8 h9 h10 h11 h12 h13 : Nat) (k0 : ClassId) (w0 : Int64) (sz : Nat) : Met l yX11_feed (WS yX11_feed cX11_feed 5 (some (.int))) ({ frames := 1, cells := 0, slots := 0, locals := 22 }) (va_Pc [.ref h0, .int 4, .long w0] (fun U => U.heap.size = sz ∧ va_P (dC, dI) vwCl [(h0, .inr (14, [.ref h1, .ref h2, .ref h3, .ref h4, .int 0, .ref h5, .ref h6, .ref h7, .ref h8, .ref h9, .ref h10, .ref h11, .ref h12, .int (-1), .int 0, .int 0, .int (-1), .int (-1)])), (h1, .inr (10, [.ref h13, .int 0, .int 0, .int 0])), (h13, .inl (k0, 200, .inl (fun _ => 0)))] U.heap ∧ va_K (dC, dI) vwCl [(k0, .int)] U ∧ va_D (fun _ => True) [(h0, .inr (14, [.ref h1, .ref h2, .ref h3, .ref h4, .int 0, .ref h5, .ref h6, .ref h7, .ref h8, .ref h9, .ref h10, .ref h11, .ref h12, .int (-1), .int 0, .int 0, .int (-1), .int (-1)])), (h1, .inr (10, [.ref h13, .int 0, .int 0, .int 0])), (h13, .inl (k0, 200, .inl (fun _ => 0)))])) (va_Qi (fun (r : Int32) (u : Nat) => (u = 0 ∧ r = (-4) ∧ (¬ GC4 w0)) ∨ (u = 1 ∧ r = 4 ∧ (GC4 w0))) (fun (_ : Nat) (t : State) => (va_P (dC, dI) vwCl [] t.heap ∧ va_K (dC, dI) vwCl [] t ∧ va_D (va_A [(h0, .inr (14, [.ref h1, .ref h2, .ref h3, .ref h4, .int 0, .ref h5, .ref h6, .ref h7, .ref h8, .ref h9, .ref h10, .ref h11, .ref h12, .int (-1), .int 0, .int 0, .int (-1), .int (-1)])), (h1, .inr (10, [.ref h13, .int 0, .int 0, .int 0])), (h13, .inl (k0, 200, .inl (fun _ => 0)))] sz) [])) (va_A [(h0, .inr (14, [.ref h1, .ref h2, .ref h3, .ref h4, .int 0, .ref h5, .ref h6, .ref h7, .ref h8, .ref h9, .ref h10, .ref h11, .ref h12, .int (-1), .int 0, .int 0, .int (-1), .int (-1)])), (h1, .inr (10, [.ref h13, .int 0, .int 0, .int 0])), (h13, .inl (k0, 200, .inl (fun _ => 0)))] sz)) 0 0 (va_A [(h0, .inr (14, [.ref h1, .ref h2, .ref h3, .ref h4, .int 0, .ref h5, .ref h6, .ref h7, .ref h8, .ref h9, .ref h10, .ref h11, .ref h12, .int (-1), .int 0, .int 0, .int (-1), .int (-1)])), (h1, .inr (10, [.ref h13, .int 0, .int 0, .int 0])), (h13, .inl (k0, 200, .inl (fun _ => 0)))] sz) := by
  refine Met.ofW (cc := cX11_feed) (maxL := 5) (ret := (some (.int))) (by decide) rfl ?_
  intro p e s m args below meth c s₁ B hml hv
  obtain ⟨rfl, hsz, hP, hK, hD0⟩ := hv
  have hx := B.exec
  have hb := B.bytes
  have hr := B.returns
  have hts := atoms_spec (ws := WS yX11_feed cX11_feed 5 (some (.int))) B.pre
  have ht : ∀ w ∈ TW, w.before _ s = true := fun w h => hts w (List.mem_cons_of_mem _ h)
  have hown : s.vm.findClass "PatternWorkshop" = some m.cls := findClass_of_methodNamed B.named
  have hlocks := B.notSynchronized
  subst hsz
  have hD := hD0.self (sz := s.heap.size)
  generalize hAe : va_A [(h0, .inr (14, [.ref h1, .ref h2, .ref h3, .ref h4, .int 0, .ref h5, .ref h6, .ref h7, .ref h8, .ref h9, .ref h10, .ref h11, .ref h12, .int (-1), .int 0, .int 0, .int (-1), .int (-1)])), (h1, .inr (10, [.ref h13, .int 0, .int 0, .int 0])), (h13, .inl (k0, 200, .inl (fun _ => 0)))] s.heap.size = A at hD ⊢
  have hA : ∀ q : Nat, s.heap.size ≤ q → A q := fun q h => by rw [← hAe]; exact Or.inr h
  have hS : va_S A s.heap s.heap [] := va_S.rf
  have hP : va_P (dC, dI) vwCl [(h0, .inr (14, [.ref h1, .ref h2, .ref h3, .ref h4, .int 0, .ref h5, .ref h6, .ref h7, .ref h8, .ref h9, .ref h10, .ref h11, .ref h12, .int (-1), .int 0, .int 0, .int (-1), .int (-1)])), (h1, .inr (10, [.ref h13, .int 0, .int 0, .int 0])), (h13, .inl (k0, 200, .inl (fun _ => 0)))] s.heap := hP
  have hl := lv_entry ([.ref h0, .int 4, .long w0]) (n := 5) (Nat.le_of_ble_eq_true rfl)
  rw [lg_entry_eq]
  generalize (lg_sl ([.ref h0, .int 4, .long w0]) ++ List.replicate (5 - (lg_sl ([.ref h0, .int 4, .long w0])).length) Slot.unset).toArray = ls at hl ⊢
  have hl : lv_has ls 5 [(0, .ref h0), (1, .int 4), (2, .long w0)] := hl
  clear hD0
  refine lv_iload_n hx hb dX11_feed_0 rfl (lv_at hl 1 rfl) ?_
  refine lv_iconst (v := 1) hx hb dX11_feed_1 (by decide) ?_
  refine lv_icmp_lt (tgt := 11) hx hb dX11_feed_2 (by decide) (fun c_ => absurd c_ (by decide)) (fun _ => ?_)
  refine lv_iload_n hx hb dX11_feed_5 rfl (lv_at hl 1 rfl) ?_
  refine lv_bipush (v := 8) hx hb dX11_feed_6 (by decide) ?_
  refine lv_icmp_le (tgt := 14) hx hb dX11_feed_8 (by decide) (fun _ => ?_) (fun c_ => absurd (by decide) c_)
  refine lv_iconst (v := 0) hx hb dX11_feed_14 (by decide) ?_
  refine lv_istore (lv' := [(4, .int 0), (0, .ref h0), (1, .int 4), (2, .long w0)]) hx hb dX11_feed_15 hl (by decide) rfl (fun ls_1 hl_1 => ?_)
  clear hl
  refine lv_iload hx hb dX11_feed_17 (lv_at hl_1 0 rfl) ?_
  refine lv_iload_n hx hb dX11_feed_19 rfl (lv_at hl_1 2 rfl) ?_
  refine lv_icmp_ge (tgt := 44) hx hb dX11_feed_20 (by decide) (fun c_ => absurd c_ (by decide)) (fun _ => ?_)
  refine lv_lload_n hx hb dX11_feed_23 rfl (lv_at hl_1 3 rfl) ?_
  refine lv_iload hx hb dX11_feed_24 (lv_at hl_1 0 rfl) ?_
  have hPc_2 := hP.sub (ws' := []) [] rfl
  have hDc_2 := hD.sub (ws' := []) [] (by decide) rfl
  have hKc_2 := hK.sub (tys' := []) [] rfl
  have hFc_2 := va_free (wc := []) hD hS hA [] rfl
  refine va_calli (va_runS (As := [.long w0, .int 0]) (rest := []) ⟨hx, hb, hml, hown, ht⟩ (mt_X11_byteOf l dC dI w0 s.heap.size) (cwS 2 ht (goodS tw_859 tw_860 tw_236 gw_X11_byteOf) rfl rfl rfl (by decide +kernel) ⟨Nat.le_of_ble_eq_true rfl, Nat.le_of_ble_eq_true rfl⟩) ⟨fun a U g mk q => by obtain ⟨q0, q1, qP, qK, qD⟩ := q; exact ⟨q0, q1, qP, va_K.moved (u := U) (U := U.calling g mk a) (Vm.Alike.refl U.vm) qK, qD⟩, fun U hU hW => ⟨rfl, by rw [hU], by rw [hU]; exact hPc_2, va_K.moved hW.alike hKc_2, hDc_2.weaken (fun _ _ _ _ => trivial)⟩⟩ rfl rfl hl_1.1 rfl (lv_room (Nat.le_of_ble_eq_true rfl)) dX11_feed_26 ⟨Nat.le_of_ble_eq_true rfl, Nat.le_of_ble_eq_true rfl⟩) hS (fun q _ h => hFc_2 q h) hFc_2 (fun r_2 u_2 t_2 H_2 locs_2 ht_2 hvm_2 hw_2 hB_2 hz_2 hk_2 hS_2 => ?_)
  obtain ⟨rfl, rfl⟩ := hw_2
  obtain ⟨hP1_2, hK1_2, hD1_2⟩ := hB_2
  rw [ht_2] at hP1_2
  have hK1_2 := va_K.moved hvm_2.symm hK1_2
  obtain ⟨hP_2, hD_2⟩ := va_join (wr := [(h0, .inr (14, [.ref h1, .ref h2, .ref h3, .ref h4, .int 0, .ref h5, .ref h6, .ref h7, .ref h8, .ref h9, .ref h10, .ref h11, .ref h12, .int (-1), .int 0, .int 0, .int (-1), .int (-1)])), (h1, .inr (10, [.ref h13, .int 0, .int 0, .int 0])), (h13, .inl (k0, 200, .inl (fun _ => 0)))]) (w1 := []) hP hD [] [0, 1, 2] rfl rfl (by decide) (by decide) hk_2 hFc_2 hP1_2 hD1_2
  have hK_2 := (hK.sub (tys' := [(k0, .int)]) [0] rfl).app hK1_2
  have hK_2 : va_K (dC, dI) vwCl [(k0, .int)] s := hK_2
  have hP_2 : va_P (dC, dI) vwCl [(h0, .inr (14, [.ref h1, .ref h2, .ref h3, .ref h4, .int 0, .ref h5, .ref h6, .ref h7, .ref h8, .ref h9, .ref h10, .ref h11, .ref h12, .int (-1), .int 0, .int 0, .int (-1), .int (-1)])), (h1, .inr (10, [.ref h13, .int 0, .int 0, .int 0])), (h13, .inl (k0, 200, .inl (fun _ => 0)))] H_2 := hP_2
  have hD_2 : va_D A [(h0, .inr (14, [.ref h1, .ref h2, .ref h3, .ref h4, .int 0, .ref h5, .ref h6, .ref h7, .ref h8, .ref h9, .ref h10, .ref h11, .ref h12, .int (-1), .int 0, .int 0, .int (-1), .int (-1)])), (h1, .inr (10, [.ref h13, .int 0, .int 0, .int 0])), (h13, .inl (k0, 200, .inl (fun _ => 0)))] := hD_2
  clear hP hD hS hK hPc_2 hDc_2 hKc_2 hFc_2 hP1_2 hK1_2 hD1_2 hk_2 hz_2
  have hPc_3 := hP_2.sub (ws' := []) [] rfl
  have hDc_3 := hD_2.sub (ws' := []) [] (by decide) rfl
  have hKc_3 := hK_2.sub (tys' := []) [] rfl
  have hFc_3 := va_free (wc := []) hD_2 hS_2 hA [] rfl
  refine va_calli (va_runS (As := [.int (((w0.toUInt64 >>> ((0 : Int32).toInt64.toUInt64 &&& Int64.toUInt64 63)).toInt64).toInt32 &&& 255)]) (rest := []) ⟨hx, hb, hml, hown, ht⟩ (mt_X11_isTapeSign l dC dI (((w0.toUInt64 >>> ((0 : Int32).toInt64.toUInt64 &&& Int64.toUInt64 63)).toInt64).toInt32 &&& 255) H_2.size) (cwS 1 ht (goodS tw_862 tw_863 tw_236 gw_X11_isTapeSign) rfl rfl rfl (by decide +kernel) ⟨Nat.le_of_ble_eq_true rfl, Nat.le_of_ble_eq_true rfl⟩) ⟨fun a U g mk q => by obtain ⟨q0, q1, qP, qK, qD⟩ := q; exact ⟨q0, q1, qP, va_K.moved (u := U) (U := U.calling g mk a) (Vm.Alike.refl U.vm) qK, qD⟩, fun U hU hW => ⟨rfl, by rw [hU], by rw [hU]; exact hPc_3, va_K.moved hW.alike hKc_3, hDc_3.weaken (fun _ _ _ _ => trivial)⟩⟩ rfl rfl hl_1.1 rfl (lv_room (Nat.le_of_ble_eq_true rfl)) dX11_feed_29 ⟨Nat.le_of_ble_eq_true rfl, Nat.le_of_ble_eq_true rfl⟩) hS_2 (fun q _ h => hFc_3 q h) hFc_3 (fun r_3 u_3 t_3 H_3 locs_3 ht_3 hvm_3 hw_3 hB_3 hz_3 hk_3 hS_3 => ?_)
  rcases hw_3 with ⟨rfl, rfl, cc_3_0⟩ | ⟨rfl, rfl, cc_3_0, cc_3_1⟩ | ⟨rfl, rfl, cc_3_0, cc_3_1⟩
  · obtain ⟨hP1_3, hK1_3, hD1_3⟩ := hB_3
    rw [ht_3] at hP1_3
    have hK1_3 := va_K.moved hvm_3.symm hK1_3
    obtain ⟨hP_3, hD_3⟩ := va_join (wr := [(h0, .inr (14, [.ref h1, .ref h2, .ref h3, .ref h4, .int 0, .ref h5, .ref h6, .ref h7, .ref h8, .ref h9, .ref h10, .ref h11, .ref h12, .int (-1), .int 0, .int 0, .int (-1), .int (-1)])), (h1, .inr (10, [.ref h13, .int 0, .int 0, .int 0])), (h13, .inl (k0, 200, .inl (fun _ => 0)))]) (w1 := []) hP_2 hD_2 [] [0, 1, 2] rfl rfl (by decide) (by decide) hk_3 hFc_3 hP1_3 hD1_3
    have hK_3 := (hK_2.sub (tys' := [(k0, .int)]) [0] rfl).app hK1_3
    have hK_3 : va_K (dC, dI) vwCl [(k0, .int)] s := hK_3
    have hP_3 : va_P (dC, dI) vwCl [(h0, .inr (14, [.ref h1, .ref h2, .ref h3, .ref h4, .int 0, .ref h5, .ref h6, .ref h7, .ref h8, .ref h9, .ref h10, .ref h11, .ref h12, .int (-1), .int 0, .int 0, .int (-1), .int (-1)])), (h1, .inr (10, [.ref h13, .int 0, .int 0, .int 0])), (h13, .inl (k0, 200, .inl (fun _ => 0)))] H_3 := hP_3
    have hD_3 : va_D A [(h0, .inr (14, [.ref h1, .ref h2, .ref h3, .ref h4, .int 0, .ref h5, .ref h6, .ref h7, .ref h8, .ref h9, .ref h10, .ref h11, .ref h12, .int (-1), .int 0, .int 0, .int (-1), .int (-1)])), (h1, .inr (10, [.ref h13, .int 0, .int 0, .int 0])), (h13, .inl (k0, 200, .inl (fun _ => 0)))] := hD_3
    clear hP_2 hD_2 hS_2 hK_2 hPc_3 hDc_3 hKc_3 hFc_3 hP1_3 hK1_3 hD1_3 hk_3 hz_3
    refine lv_if_ne (tgt := 38) hx hb dX11_feed_32 (by decide) (fun c_ => absurd (by decide) c_) (fun _ => ?_)
    refine lv_bipush (v := (-4)) hx hb dX11_feed_35 (by decide) ?_
    have hP9 := hP_3.sub (ws' := []) [] rfl
    have hD9 := hD_3.sub (ws' := []) [] (by decide) rfl
    have hK9 := hK_3.sub (tys' := []) [] rfl
    refine W.widen (k := 0) (n := 0) (by decide) (by decide) ?_
    exact W.iret (v := (-4)) hx hb hr (fun t9 ht9 hW9 => ⟨⟨(-4), 0, rfl, (Or.inl ⟨rfl, rfl, (fun h => h.1 cc_3_0)⟩), ⟨by rw [ht9]; exact hP9, va_K.moved hW9.alike hK9, hD9⟩⟩, hS_3.F ht9⟩) hS_3.2.2 dX11_feed_37
  · obtain ⟨hP1_3, hK1_3, hD1_3⟩ := hB_3
    rw [ht_3] at hP1_3
    have hK1_3 := va_K.moved hvm_3.symm hK1_3
    obtain ⟨hP_3, hD_3⟩ := va_join (wr := [(h0, .inr (14, [.ref h1, .ref h2, .ref h3, .ref h4, .int 0, .ref h5, .ref h6, .ref h7, .ref h8, .ref h9, .ref h10, .ref h11, .ref h12, .int (-1), .int 0, .int 0, .int (-1), .int (-1)])), (h1, .inr (10, [.ref h13, .int 0, .int 0, .int 0])), (h13, .inl (k0, 200, .inl (fun _ => 0)))]) (w1 := []) hP_2 hD_2 [] [0, 1, 2] rfl rfl (by decide) (by decide) hk_3 hFc_3 hP1_3 hD1_3
    have hK_3 := (hK_2.sub (tys' := [(k0, .int)]) [0] rfl).app hK1_3
    have hK_3 : va_K (dC, dI) vwCl [(k0, .int)] s := hK_3
    have hP_3 : va_P (dC, dI) vwCl [(h0, .inr (14, [.ref h1, .ref h2, .ref h3, .ref h4, .int 0, .ref h5, .ref h6, .ref h7, .ref h8, .ref h9, .ref h10, .ref h11, .ref h12, .int (-1), .int 0, .int 0, .int (-1), .int (-1)])), (h1, .inr (10, [.ref h13, .int 0, .int 0, .int 0])), (h13, .inl (k0, 200, .inl (fun _ => 0)))] H_3 := hP_3
    have hD_3 : va_D A [(h0, .inr (14, [.ref h1, .ref h2, .ref h3, .ref h4, .int 0, .ref h5, .ref h6, .ref h7, .ref h8, .ref h9, .ref h10, .ref h11, .ref h12, .int (-1), .int 0, .int 0, .int (-1), .int (-1)])), (h1, .inr (10, [.ref h13, .int 0, .int 0, .int 0])), (h13, .inl (k0, 200, .inl (fun _ => 0)))] := hD_3
    clear hP_2 hD_2 hS_2 hK_2 hPc_3 hDc_3 hKc_3 hFc_3 hP1_3 hK1_3 hD1_3 hk_3 hz_3
    refine lv_if_ne (tgt := 38) hx hb dX11_feed_32 (by decide) (fun c_ => absurd (by decide) c_) (fun _ => ?_)
    refine lv_bipush (v := (-4)) hx hb dX11_feed_35 (by decide) ?_
    have hP9 := hP_3.sub (ws' := []) [] rfl
    have hD9 := hD_3.sub (ws' := []) [] (by decide) rfl
    have hK9 := hK_3.sub (tys' := []) [] rfl
    refine W.widen (k := 0) (n := 0) (by decide) (by decide) ?_
    exact W.iret (v := (-4)) hx hb hr (fun t9 ht9 hW9 => ⟨⟨(-4), 0, rfl, (Or.inl ⟨rfl, rfl, (fun h => h.2.1 cc_3_1)⟩), ⟨by rw [ht9]; exact hP9, va_K.moved hW9.alike hK9, hD9⟩⟩, hS_3.F ht9⟩) hS_3.2.2 dX11_feed_37
  · obtain ⟨hP1_3, hK1_3, hD1_3⟩ := hB_3
    rw [ht_3] at hP1_3
    have hK1_3 := va_K.moved hvm_3.symm hK1_3
    obtain ⟨hP_3, hD_3⟩ := va_join (wr := [(h0, .inr (14, [.ref h1, .ref h2, .ref h3, .ref h4, .int 0, .ref h5, .ref h6, .ref h7, .ref h8, .ref h9, .ref h10, .ref h11, .ref h12, .int (-1), .int 0, .int 0, .int (-1), .int (-1)])), (h1, .inr (10, [.ref h13, .int 0, .int 0, .int 0])), (h13, .inl (k0, 200, .inl (fun _ => 0)))]) (w1 := []) hP_2 hD_2 [] [0, 1, 2] rfl rfl (by decide) (by decide) hk_3 hFc_3 hP1_3 hD1_3
    have hK_3 := (hK_2.sub (tys' := [(k0, .int)]) [0] rfl).app hK1_3
    have hK_3 : va_K (dC, dI) vwCl [(k0, .int)] s := hK_3
    have hP_3 : va_P (dC, dI) vwCl [(h0, .inr (14, [.ref h1, .ref h2, .ref h3, .ref h4, .int 0, .ref h5, .ref h6, .ref h7, .ref h8, .ref h9, .ref h10, .ref h11, .ref h12, .int (-1), .int 0, .int 0, .int (-1), .int (-1)])), (h1, .inr (10, [.ref h13, .int 0, .int 0, .int 0])), (h13, .inl (k0, 200, .inl (fun _ => 0)))] H_3 := hP_3
    have hD_3 : va_D A [(h0, .inr (14, [.ref h1, .ref h2, .ref h3, .ref h4, .int 0, .ref h5, .ref h6, .ref h7, .ref h8, .ref h9, .ref h10, .ref h11, .ref h12, .int (-1), .int 0, .int 0, .int (-1), .int (-1)])), (h1, .inr (10, [.ref h13, .int 0, .int 0, .int 0])), (h13, .inl (k0, 200, .inl (fun _ => 0)))] := hD_3
    clear hP_2 hD_2 hS_2 hK_2 hPc_3 hDc_3 hKc_3 hFc_3 hP1_3 hK1_3 hD1_3 hk_3 hz_3
    refine lv_if_ne (tgt := 38) hx hb dX11_feed_32 (by decide) (fun _ => ?_) (fun c_ => absurd c_ (by decide))
    refine lv_iinc (v := 1) (lv' := [(4, .int 1), (0, .ref h0), (1, .int 4), (2, .long w0)]) hx hb dX11_feed_38 hl_1 (k := 0) rfl (by decide) (by decide) rfl (fun ls_4 hl_4 => ?_)
    clear hl_1
    refine lv_goto (tgt := 17) hx hb dX11_feed_41 (by decide) ?_
    refine lv_iload hx hb dX11_feed_17 (lv_at hl_4 0 rfl) ?_
    refine lv_iload_n hx hb dX11_feed_19 rfl (lv_at hl_4 2 rfl) ?_
    refine lv_icmp_ge (tgt := 44) hx hb dX11_feed_20 (by decide) (fun c_ => absurd c_ (by decide)) (fun _ => ?_)
    refine lv_lload_n hx hb dX11_feed_23 rfl (lv_at hl_4 3 rfl) ?_
    refine lv_iload hx hb dX11_feed_24 (lv_at hl_4 0 rfl) ?_
    have hPc_5 := hP_3.sub (ws' := []) [] rfl
    have hDc_5 := hD_3.sub (ws' := []) [] (by decide) rfl
    have hKc_5 := hK_3.sub (tys' := []) [] rfl
    have hFc_5 := va_free (wc := []) hD_3 hS_3 hA [] rfl
    refine va_calli (va_runS (As := [.long w0, .int 1]) (rest := []) ⟨hx, hb, hml, hown, ht⟩ (mt_X11_byteOf_v2 l dC dI w0 H_3.size) (cwS 2 ht (goodS tw_859 tw_860 tw_236 gw_X11_byteOf) rfl rfl rfl (by decide +kernel) ⟨Nat.le_of_ble_eq_true rfl, Nat.le_of_ble_eq_true rfl⟩) ⟨fun a U g mk q => by obtain ⟨q0, q1, qP, qK, qD⟩ := q; exact ⟨q0, q1, qP, va_K.moved (u := U) (U := U.calling g mk a) (Vm.Alike.refl U.vm) qK, qD⟩, fun U hU hW => ⟨rfl, by rw [hU], by rw [hU]; exact hPc_5, va_K.moved hW.alike hKc_5, hDc_5.weaken (fun _ _ _ _ => trivial)⟩⟩ rfl rfl hl_4.1 rfl (lv_room (Nat.le_of_ble_eq_true rfl)) dX11_feed_26 ⟨Nat.le_of_ble_eq_true rfl, Nat.le_of_ble_eq_true rfl⟩) hS_3 (fun q _ h => hFc_5 q h) hFc_5 (fun r_5 u_5 t_5 H_5 locs_5 ht_5 hvm_5 hw_5 hB_5 hz_5 hk_5 hS_5 => ?_)
    obtain ⟨rfl, rfl⟩ := hw_5
    obtain ⟨hP1_5, hK1_5, hD1_5⟩ := hB_5
    rw [ht_5] at hP1_5
    have hK1_5 := va_K.moved hvm_5.symm hK1_5
    obtain ⟨hP_5, hD_5⟩ := va_join (wr := [(h0, .inr (14, [.ref h1, .ref h2, .ref h3, .ref h4, .int 0, .ref h5, .ref h6, .ref h7, .ref h8, .ref h9, .ref h10, .ref h11, .ref h12, .int (-1), .int 0, .int 0, .int (-1), .int (-1)])), (h1, .inr (10, [.ref h13, .int 0, .int 0, .int 0])), (h13, .inl (k0, 200, .inl (fun _ => 0)))]) (w1 := []) hP_3 hD_3 [] [0, 1, 2] rfl rfl (by decide) (by decide) hk_5 hFc_5 hP1_5 hD1_5
    have hK_5 := (hK_3.sub (tys' := [(k0, .int)]) [0] rfl).app hK1_5
    have hK_5 : va_K (dC, dI) vwCl [(k0, .int)] s := hK_5
    have hP_5 : va_P (dC, dI) vwCl [(h0, .inr (14, [.ref h1, .ref h2, .ref h3, .ref h4, .int 0, .ref h5, .ref h6, .ref h7, .ref h8, .ref h9, .ref h10, .ref h11, .ref h12, .int (-1), .int 0, .int 0, .int (-1), .int (-1)])), (h1, .inr (10, [.ref h13, .int 0, .int 0, .int 0])), (h13, .inl (k0, 200, .inl (fun _ => 0)))] H_5 := hP_5
    have hD_5 : va_D A [(h0, .inr (14, [.ref h1, .ref h2, .ref h3, .ref h4, .int 0, .ref h5, .ref h6, .ref h7, .ref h8, .ref h9, .ref h10, .ref h11, .ref h12, .int (-1), .int 0, .int 0, .int (-1), .int (-1)])), (h1, .inr (10, [.ref h13, .int 0, .int 0, .int 0])), (h13, .inl (k0, 200, .inl (fun _ => 0)))] := hD_5
    clear hP_3 hD_3 hS_3 hK_3 hPc_5 hDc_5 hKc_5 hFc_5 hP1_5 hK1_5 hD1_5 hk_5 hz_5
    have hPc_6 := hP_5.sub (ws' := []) [] rfl
    have hDc_6 := hD_5.sub (ws' := []) [] (by decide) rfl
    have hKc_6 := hK_5.sub (tys' := []) [] rfl
    have hFc_6 := va_free (wc := []) hD_5 hS_5 hA [] rfl
    refine va_calli (va_runS (As := [.int (((w0.toUInt64 >>> ((8 : Int32).toInt64.toUInt64 &&& Int64.toUInt64 63)).toInt64).toInt32 &&& 255)]) (rest := []) ⟨hx, hb, hml, hown, ht⟩ (mt_X11_isTapeSign l dC dI (((w0.toUInt64 >>> ((8 : Int32).toInt64.toUInt64 &&& Int64.toUInt64 63)).toInt64).toInt32 &&& 255) H_5.size) (cwS 1 ht (goodS tw_862 tw_863 tw_236 gw_X11_isTapeSign) rfl rfl rfl (by decide +kernel) ⟨Nat.le_of_ble_eq_true rfl, Nat.le_of_ble_eq_true rfl⟩) ⟨fun a U g mk q => by obtain ⟨q0, q1, qP, qK, qD⟩ := q; exact ⟨q0, q1, qP, va_K.moved (u := U) (U := U.calling g mk a) (Vm.Alike.refl U.vm) qK, qD⟩, fun U hU hW => ⟨rfl, by rw [hU], by rw [hU]; exact hPc_6, va_K.moved hW.alike hKc_6, hDc_6.weaken (fun _ _ _ _ => trivial)⟩⟩ rfl rfl hl_4.1 rfl (lv_room (Nat.le_of_ble_eq_true rfl)) dX11_feed_29 ⟨Nat.le_of_ble_eq_true rfl, Nat.le_of_ble_eq_true rfl⟩) hS_5 (fun q _ h => hFc_6 q h) hFc_6 (fun r_6 u_6 t_6 H_6 locs_6 ht_6 hvm_6 hw_6 hB_6 hz_6 hk_6 hS_6 => ?_)
    rcases hw_6 with ⟨rfl, rfl, cc_6_0⟩ | ⟨rfl, rfl, cc_6_0, cc_6_1⟩ | ⟨rfl, rfl, cc_6_0, cc_6_1⟩
    · obtain ⟨hP1_6, hK1_6, hD1_6⟩ := hB_6
      rw [ht_6] at hP1_6
      have hK1_6 := va_K.moved hvm_6.symm hK1_6
      obtain ⟨hP_6, hD_6⟩ := va_join (wr := [(h0, .inr (14, [.ref h1, .ref h2, .ref h3, .ref h4, .int 0, .ref h5, .ref h6, .ref h7, .ref h8, .ref h9, .ref h10, .ref h11, .ref h12, .int (-1), .int 0, .int 0, .int (-1), .int (-1)])), (h1, .inr (10, [.ref h13, .int 0, .int 0, .int 0])), (h13, .inl (k0, 200, .inl (fun _ => 0)))]) (w1 := []) hP_5 hD_5 [] [0, 1, 2] rfl rfl (by decide) (by decide) hk_6 hFc_6 hP1_6 hD1_6
      have hK_6 := (hK_5.sub (tys' := [(k0, .int)]) [0] rfl).app hK1_6
      have hK_6 : va_K (dC, dI) vwCl [(k0, .int)] s := hK_6
      have hP_6 : va_P (dC, dI) vwCl [(h0, .inr (14, [.ref h1, .ref h2, .ref h3, .ref h4, .int 0, .ref h5, .ref h6, .ref h7, .ref h8, .ref h9, .ref h10, .ref h11, .ref h12, .int (-1), .int 0, .int 0, .int (-1), .int (-1)])), (h1, .inr (10, [.ref h13, .int 0, .int 0, .int 0])), (h13, .inl (k0, 200, .inl (fun _ => 0)))] H_6 := hP_6
      have hD_6 : va_D A [(h0, .inr (14, [.ref h1, .ref h2, .ref h3, .ref h4, .int 0, .ref h5, .ref h6, .ref h7, .ref h8, .ref h9, .ref h10, .ref h11, .ref h12, .int (-1), .int 0, .int 0, .int (-1), .int (-1)])), (h1, .inr (10, [.ref h13, .int 0, .int 0, .int 0])), (h13, .inl (k0, 200, .inl (fun _ => 0)))] := hD_6
      clear hP_5 hD_5 hS_5 hK_5 hPc_6 hDc_6 hKc_6 hFc_6 hP1_6 hK1_6 hD1_6 hk_6 hz_6
      refine lv_if_ne (tgt := 38) hx hb dX11_feed_32 (by decide) (fun c_ => absurd (by decide) c_) (fun _ => ?_)
      refine lv_bipush (v := (-4)) hx hb dX11_feed_35 (by decide) ?_
      have hP9 := hP_6.sub (ws' := []) [] rfl
      have hD9 := hD_6.sub (ws' := []) [] (by decide) rfl
      have hK9 := hK_6.sub (tys' := []) [] rfl
      refine W.widen (k := 0) (n := 0) (by decide) (by decide) ?_
      exact W.iret (v := (-4)) hx hb hr (fun t9 ht9 hW9 => ⟨⟨(-4), 0, rfl, (Or.inl ⟨rfl, rfl, (fun h => h.2.2.1 cc_6_0)⟩), ⟨by rw [ht9]; exact hP9, va_K.moved hW9.alike hK9, hD9⟩⟩, hS_6.F ht9⟩) hS_6.2.2 dX11_feed_37
    · obtain ⟨hP1_6, hK1_6, hD1_6⟩ := hB_6
      rw [ht_6] at hP1_6
      have hK1_6 := va_K.moved hvm_6.symm hK1_6
      obtain ⟨hP_6, hD_6⟩ := va_join (wr := [(h0, .inr (14, [.ref h1, .ref h2, .ref h3, .ref h4, .int 0, .ref h5, .ref h6, .ref h7, .ref h8, .ref h9, .ref h10, .ref h11, .ref h12, .int (-1), .int 0, .int 0, .int (-1), .int (-1)])), (h1, .inr (10, [.ref h13, .int 0, .int 0, .int 0])), (h13, .inl (k0, 200, .inl (fun _ => 0)))]) (w1 := []) hP_5 hD_5 [] [0, 1, 2] rfl rfl (by decide) (by decide) hk_6 hFc_6 hP1_6 hD1_6
      have hK_6 := (hK_5.sub (tys' := [(k0, .int)]) [0] rfl).app hK1_6
      have hK_6 : va_K (dC, dI) vwCl [(k0, .int)] s := hK_6
      have hP_6 : va_P (dC, dI) vwCl [(h0, .inr (14, [.ref h1, .ref h2, .ref h3, .ref h4, .int 0, .ref h5, .ref h6, .ref h7, .ref h8, .ref h9, .ref h10, .ref h11, .ref h12, .int (-1), .int 0, .int 0, .int (-1), .int (-1)])), (h1, .inr (10, [.ref h13, .int 0, .int 0, .int 0])), (h13, .inl (k0, 200, .inl (fun _ => 0)))] H_6 := hP_6
      have hD_6 : va_D A [(h0, .inr (14, [.ref h1, .ref h2, .ref h3, .ref h4, .int 0, .ref h5, .ref h6, .ref h7, .ref h8, .ref h9, .ref h10, .ref h11, .ref h12, .int (-1), .int 0, .int 0, .int (-1), .int (-1)])), (h1, .inr (10, [.ref h13, .int 0, .int 0, .int 0])), (h13, .inl (k0, 200, .inl (fun _ => 0)))] := hD_6
      clear hP_5 hD_5 hS_5 hK_5 hPc_6 hDc_6 hKc_6 hFc_6 hP1_6 hK1_6 hD1_6 hk_6 hz_6
      refine lv_if_ne (tgt := 38) hx hb dX11_feed_32 (by decide) (fun c_ => absurd (by decide) c_) (fun _ => ?_)
      refine lv_bipush (v := (-4)) hx hb dX11_feed_35 (by decide) ?_
      have hP9 := hP_6.sub (ws' := []) [] rfl
      have hD9 := hD_6.sub (ws' := []) [] (by decide) rfl
      have hK9 := hK_6.sub (tys' := []) [] rfl
      refine W.widen (k := 0) (n := 0) (by decide) (by decide) ?_
      exact W.iret (v := (-4)) hx hb hr (fun t9 ht9 hW9 => ⟨⟨(-4), 0, rfl, (Or.inl ⟨rfl, rfl, (fun h => h.2.2.2.1 cc_6_1)⟩), ⟨by rw [ht9]; exact hP9, va_K.moved hW9.alike hK9, hD9⟩⟩, hS_6.F ht9⟩) hS_6.2.2 dX11_feed_37
    · obtain ⟨hP1_6, hK1_6, hD1_6⟩ := hB_6
      rw [ht_6] at hP1_6
      have hK1_6 := va_K.moved hvm_6.symm hK1_6
      obtain ⟨hP_6, hD_6⟩ := va_join (wr := [(h0, .inr (14, [.ref h1, .ref h2, .ref h3, .ref h4, .int 0, .ref h5, .ref h6, .ref h7, .ref h8, .ref h9, .ref h10, .ref h11, .ref h12, .int (-1), .int 0, .int 0, .int (-1), .int (-1)])), (h1, .inr (10, [.ref h13, .int 0, .int 0, .int 0])), (h13, .inl (k0, 200, .inl (fun _ => 0)))]) (w1 := []) hP_5 hD_5 [] [0, 1, 2] rfl rfl (by decide) (by decide) hk_6 hFc_6 hP1_6 hD1_6
      have hK_6 := (hK_5.sub (tys' := [(k0, .int)]) [0] rfl).app hK1_6
      have hK_6 : va_K (dC, dI) vwCl [(k0, .int)] s := hK_6
      have hP_6 : va_P (dC, dI) vwCl [(h0, .inr (14, [.ref h1, .ref h2, .ref h3, .ref h4, .int 0, .ref h5, .ref h6, .ref h7, .ref h8, .ref h9, .ref h10, .ref h11, .ref h12, .int (-1), .int 0, .int 0, .int (-1), .int (-1)])), (h1, .inr (10, [.ref h13, .int 0, .int 0, .int 0])), (h13, .inl (k0, 200, .inl (fun _ => 0)))] H_6 := hP_6
      have hD_6 : va_D A [(h0, .inr (14, [.ref h1, .ref h2, .ref h3, .ref h4, .int 0, .ref h5, .ref h6, .ref h7, .ref h8, .ref h9, .ref h10, .ref h11, .ref h12, .int (-1), .int 0, .int 0, .int (-1), .int (-1)])), (h1, .inr (10, [.ref h13, .int 0, .int 0, .int 0])), (h13, .inl (k0, 200, .inl (fun _ => 0)))] := hD_6
      clear hP_5 hD_5 hS_5 hK_5 hPc_6 hDc_6 hKc_6 hFc_6 hP1_6 hK1_6 hD1_6 hk_6 hz_6
      refine lv_if_ne (tgt := 38) hx hb dX11_feed_32 (by decide) (fun _ => ?_) (fun c_ => absurd c_ (by decide))
      refine lv_iinc (v := 2) (lv' := [(4, .int 2), (0, .ref h0), (1, .int 4), (2, .long w0)]) hx hb dX11_feed_38 hl_4 (k := 0) rfl (by decide) (by decide) rfl (fun ls_7 hl_7 => ?_)
      clear hl_4
      refine lv_goto (tgt := 17) hx hb dX11_feed_41 (by decide) ?_
      refine lv_iload hx hb dX11_feed_17 (lv_at hl_7 0 rfl) ?_
      refine lv_iload_n hx hb dX11_feed_19 rfl (lv_at hl_7 2 rfl) ?_
      refine lv_icmp_ge (tgt := 44) hx hb dX11_feed_20 (by decide) (fun c_ => absurd c_ (by decide)) (fun _ => ?_)
      refine lv_lload_n hx hb dX11_feed_23 rfl (lv_at hl_7 3 rfl) ?_
      refine lv_iload hx hb dX11_feed_24 (lv_at hl_7 0 rfl) ?_
      have hPc_8 := hP_6.sub (ws' := []) [] rfl
      have hDc_8 := hD_6.sub (ws' := []) [] (by decide) rfl
      have hKc_8 := hK_6.sub (tys' := []) [] rfl
      have hFc_8 := va_free (wc := []) hD_6 hS_6 hA [] rfl
      refine va_calli (va_runS (As := [.long w0, .int 2]) (rest := []) ⟨hx, hb, hml, hown, ht⟩ (mt_X11_byteOf_v3 l dC dI w0 H_6.size) (cwS 2 ht (goodS tw_859 tw_860 tw_236 gw_X11_byteOf) rfl rfl rfl (by decide +kernel) ⟨Nat.le_of_ble_eq_true rfl, Nat.le_of_ble_eq_true rfl⟩) ⟨fun a U g mk q => by obtain ⟨q0, q1, qP, qK, qD⟩ := q; exact ⟨q0, q1, qP, va_K.moved (u := U) (U := U.calling g mk a) (Vm.Alike.refl U.vm) qK, qD⟩, fun U hU hW => ⟨rfl, by rw [hU], by rw [hU]; exact hPc_8, va_K.moved hW.alike hKc_8, hDc_8.weaken (fun _ _ _ _ => trivial)⟩⟩ rfl rfl hl_7.1 rfl (lv_room (Nat.le_of_ble_eq_true rfl)) dX11_feed_26 ⟨Nat.le_of_ble_eq_true rfl, Nat.le_of_ble_eq_true rfl⟩) hS_6 (fun q _ h => hFc_8 q h) hFc_8 (fun r_8 u_8 t_8 H_8 locs_8 ht_8 hvm_8 hw_8 hB_8 hz_8 hk_8 hS_8 => ?_)
      obtain ⟨rfl, rfl⟩ := hw_8
      obtain ⟨hP1_8, hK1_8, hD1_8⟩ := hB_8
      rw [ht_8] at hP1_8
      have hK1_8 := va_K.moved hvm_8.symm hK1_8
      obtain ⟨hP_8, hD_8⟩ := va_join (wr := [(h0, .inr (14, [.ref h1, .ref h2, .ref h3, .ref h4, .int 0, .ref h5, .ref h6, .ref h7, .ref h8, .ref h9, .ref h10, .ref h11, .ref h12, .int (-1), .int 0, .int 0, .int (-1), .int (-1)])), (h1, .inr (10, [.ref h13, .int 0, .int 0, .int 0])), (h13, .inl (k0, 200, .inl (fun _ => 0)))]) (w1 := []) hP_6 hD_6 [] [0, 1, 2] rfl rfl (by decide) (by decide) hk_8 hFc_8 hP1_8 hD1_8
      have hK_8 := (hK_6.sub (tys' := [(k0, .int)]) [0] rfl).app hK1_8
      have hK_8 : va_K (dC, dI) vwCl [(k0, .int)] s := hK_8
      have hP_8 : va_P (dC, dI) vwCl [(h0, .inr (14, [.ref h1, .ref h2, .ref h3, .ref h4, .int 0, .ref h5, .ref h6, .ref h7, .ref h8, .ref h9, .ref h10, .ref h11, .ref h12, .int (-1), .int 0, .int 0, .int (-1), .int (-1)])), (h1, .inr (10, [.ref h13, .int 0, .int 0, .int 0])), (h13, .inl (k0, 200, .inl (fun _ => 0)))] H_8 := hP_8
      have hD_8 : va_D A [(h0, .inr (14, [.ref h1, .ref h2, .ref h3, .ref h4, .int 0, .ref h5, .ref h6, .ref h7, .ref h8, .ref h9, .ref h10, .ref h11, .ref h12, .int (-1), .int 0, .int 0, .int (-1), .int (-1)])), (h1, .inr (10, [.ref h13, .int 0, .int 0, .int 0])), (h13, .inl (k0, 200, .inl (fun _ => 0)))] := hD_8
      clear hP_6 hD_6 hS_6 hK_6 hPc_8 hDc_8 hKc_8 hFc_8 hP1_8 hK1_8 hD1_8 hk_8 hz_8
      have hPc_9 := hP_8.sub (ws' := []) [] rfl
      have hDc_9 := hD_8.sub (ws' := []) [] (by decide) rfl
      have hKc_9 := hK_8.sub (tys' := []) [] rfl
      have hFc_9 := va_free (wc := []) hD_8 hS_8 hA [] rfl
      refine va_calli (va_runS (As := [.int (((w0.toUInt64 >>> ((16 : Int32).toInt64.toUInt64 &&& Int64.toUInt64 63)).toInt64).toInt32 &&& 255)]) (rest := []) ⟨hx, hb, hml, hown, ht⟩ (mt_X11_isTapeSign l dC dI (((w0.toUInt64 >>> ((16 : Int32).toInt64.toUInt64 &&& Int64.toUInt64 63)).toInt64).toInt32 &&& 255) H_8.size) (cwS 1 ht (goodS tw_862 tw_863 tw_236 gw_X11_isTapeSign) rfl rfl rfl (by decide +kernel) ⟨Nat.le_of_ble_eq_true rfl, Nat.le_of_ble_eq_true rfl⟩) ⟨fun a U g mk q => by obtain ⟨q0, q1, qP, qK, qD⟩ := q; exact ⟨q0, q1, qP, va_K.moved (u := U) (U := U.calling g mk a) (Vm.Alike.refl U.vm) qK, qD⟩, fun U hU hW => ⟨rfl, by rw [hU], by rw [hU]; exact hPc_9, va_K.moved hW.alike hKc_9, hDc_9.weaken (fun _ _ _ _ => trivial)⟩⟩ rfl rfl hl_7.1 rfl (lv_room (Nat.le_of_ble_eq_true rfl)) dX11_feed_29 ⟨Nat.le_of_ble_eq_true rfl, Nat.le_of_ble_eq_true rfl⟩) hS_8 (fun q _ h => hFc_9 q h) hFc_9 (fun r_9 u_9 t_9 H_9 locs_9 ht_9 hvm_9 hw_9 hB_9 hz_9 hk_9 hS_9 => ?_)
      rcases hw_9 with ⟨rfl, rfl, cc_9_0⟩ | ⟨rfl, rfl, cc_9_0, cc_9_1⟩ | ⟨rfl, rfl, cc_9_0, cc_9_1⟩
      · obtain ⟨hP1_9, hK1_9, hD1_9⟩ := hB_9
        rw [ht_9] at hP1_9
        have hK1_9 := va_K.moved hvm_9.symm hK1_9
        obtain ⟨hP_9, hD_9⟩ := va_join (wr := [(h0, .inr (14, [.ref h1, .ref h2, .ref h3, .ref h4, .int 0, .ref h5, .ref h6, .ref h7, .ref h8, .ref h9, .ref h10, .ref h11, .ref h12, .int (-1), .int 0, .int 0, .int (-1), .int (-1)])), (h1, .inr (10, [.ref h13, .int 0, .int 0, .int 0])), (h13, .inl (k0, 200, .inl (fun _ => 0)))]) (w1 := []) hP_8 hD_8 [] [0, 1, 2] rfl rfl (by decide) (by decide) hk_9 hFc_9 hP1_9 hD1_9
        have hK_9 := (hK_8.sub (tys' := [(k0, .int)]) [0] rfl).app hK1_9
        have hK_9 : va_K (dC, dI) vwCl [(k0, .int)] s := hK_9
        have hP_9 : va_P (dC, dI) vwCl [(h0, .inr (14, [.ref h1, .ref h2, .ref h3, .ref h4, .int 0, .ref h5, .ref h6, .ref h7, .ref h8, .ref h9, .ref h10, .ref h11, .ref h12, .int (-1), .int 0, .int 0, .int (-1), .int (-1)])), (h1, .inr (10, [.ref h13, .int 0, .int 0, .int 0])), (h13, .inl (k0, 200, .inl (fun _ => 0)))] H_9 := hP_9
        have hD_9 : va_D A [(h0, .inr (14, [.ref h1, .ref h2, .ref h3, .ref h4, .int 0, .ref h5, .ref h6, .ref h7, .ref h8, .ref h9, .ref h10, .ref h11, .ref h12, .int (-1), .int 0, .int 0, .int (-1), .int (-1)])), (h1, .inr (10, [.ref h13, .int 0, .int 0, .int 0])), (h13, .inl (k0, 200, .inl (fun _ => 0)))] := hD_9
        clear hP_8 hD_8 hS_8 hK_8 hPc_9 hDc_9 hKc_9 hFc_9 hP1_9 hK1_9 hD1_9 hk_9 hz_9
        refine lv_if_ne (tgt := 38) hx hb dX11_feed_32 (by decide) (fun c_ => absurd (by decide) c_) (fun _ => ?_)
        refine lv_bipush (v := (-4)) hx hb dX11_feed_35 (by decide) ?_
        have hP9 := hP_9.sub (ws' := []) [] rfl
        have hD9 := hD_9.sub (ws' := []) [] (by decide) rfl
        have hK9 := hK_9.sub (tys' := []) [] rfl
        refine W.widen (k := 0) (n := 0) (by decide) (by decide) ?_
        exact W.iret (v := (-4)) hx hb hr (fun t9 ht9 hW9 => ⟨⟨(-4), 0, rfl, (Or.inl ⟨rfl, rfl, (fun h => h.2.2.2.2.1 cc_9_0)⟩), ⟨by rw [ht9]; exact hP9, va_K.moved hW9.alike hK9, hD9⟩⟩, hS_9.F ht9⟩) hS_9.2.2 dX11_feed_37
      · obtain ⟨hP1_9, hK1_9, hD1_9⟩ := hB_9
        rw [ht_9] at hP1_9
        have hK1_9 := va_K.moved hvm_9.symm hK1_9
        obtain ⟨hP_9, hD_9⟩ := va_join (wr := [(h0, .inr (14, [.ref h1, .ref h2, .ref h3, .ref h4, .int 0, .ref h5, .ref h6, .ref h7, .ref h8, .ref h9, .ref h10, .ref h11, .ref h12, .int (-1), .int 0, .int 0, .int (-1), .int (-1)])), (h1, .inr (10, [.ref h13, .int 0, .int 0, .int 0])), (h13, .inl (k0, 200, .inl (fun _ => 0)))]) (w1 := []) hP_8 hD_8 [] [0, 1, 2] rfl rfl (by decide) (by decide) hk_9 hFc_9 hP1_9 hD1_9
        have hK_9 := (hK_8.sub (tys' := [(k0, .int)]) [0] rfl).app hK1_9
        have hK_9 : va_K (dC, dI) vwCl [(k0, .int)] s := hK_9
        have hP_9 : va_P (dC, dI) vwCl [(h0, .inr (14, [.ref h1, .ref h2, .ref h3, .ref h4, .int 0, .ref h5, .ref h6, .ref h7, .ref h8, .ref h9, .ref h10, .ref h11, .ref h12, .int (-1), .int 0, .int 0, .int (-1), .int (-1)])), (h1, .inr (10, [.ref h13, .int 0, .int 0, .int 0])), (h13, .inl (k0, 200, .inl (fun _ => 0)))] H_9 := hP_9
        have hD_9 : va_D A [(h0, .inr (14, [.ref h1, .ref h2, .ref h3, .ref h4, .int 0, .ref h5, .ref h6, .ref h7, .ref h8, .ref h9, .ref h10, .ref h11, .ref h12, .int (-1), .int 0, .int 0, .int (-1), .int (-1)])), (h1, .inr (10, [.ref h13, .int 0, .int 0, .int 0])), (h13, .inl (k0, 200, .inl (fun _ => 0)))] := hD_9
        clear hP_8 hD_8 hS_8 hK_8 hPc_9 hDc_9 hKc_9 hFc_9 hP1_9 hK1_9 hD1_9 hk_9 hz_9
        refine lv_if_ne (tgt := 38) hx hb dX11_feed_32 (by decide) (fun c_ => absurd (by decide) c_) (fun _ => ?_)
        refine lv_bipush (v := (-4)) hx hb dX11_feed_35 (by decide) ?_
        have hP9 := hP_9.sub (ws' := []) [] rfl
        have hD9 := hD_9.sub (ws' := []) [] (by decide) rfl
        have hK9 := hK_9.sub (tys' := []) [] rfl
        refine W.widen (k := 0) (n := 0) (by decide) (by decide) ?_
        exact W.iret (v := (-4)) hx hb hr (fun t9 ht9 hW9 => ⟨⟨(-4), 0, rfl, (Or.inl ⟨rfl, rfl, (fun h => h.2.2.2.2.2.1 cc_9_1)⟩), ⟨by rw [ht9]; exact hP9, va_K.moved hW9.alike hK9, hD9⟩⟩, hS_9.F ht9⟩) hS_9.2.2 dX11_feed_37
      · obtain ⟨hP1_9, hK1_9, hD1_9⟩ := hB_9
        rw [ht_9] at hP1_9
        have hK1_9 := va_K.moved hvm_9.symm hK1_9
        obtain ⟨hP_9, hD_9⟩ := va_join (wr := [(h0, .inr (14, [.ref h1, .ref h2, .ref h3, .ref h4, .int 0, .ref h5, .ref h6, .ref h7, .ref h8, .ref h9, .ref h10, .ref h11, .ref h12, .int (-1), .int 0, .int 0, .int (-1), .int (-1)])), (h1, .inr (10, [.ref h13, .int 0, .int 0, .int 0])), (h13, .inl (k0, 200, .inl (fun _ => 0)))]) (w1 := []) hP_8 hD_8 [] [0, 1, 2] rfl rfl (by decide) (by decide) hk_9 hFc_9 hP1_9 hD1_9
        have hK_9 := (hK_8.sub (tys' := [(k0, .int)]) [0] rfl).app hK1_9
        have hK_9 : va_K (dC, dI) vwCl [(k0, .int)] s := hK_9
        have hP_9 : va_P (dC, dI) vwCl [(h0, .inr (14, [.ref h1, .ref h2, .ref h3, .ref h4, .int 0, .ref h5, .ref h6, .ref h7, .ref h8, .ref h9, .ref h10, .ref h11, .ref h12, .int (-1), .int 0, .int 0, .int (-1), .int (-1)])), (h1, .inr (10, [.ref h13, .int 0, .int 0, .int 0])), (h13, .inl (k0, 200, .inl (fun _ => 0)))] H_9 := hP_9
        have hD_9 : va_D A [(h0, .inr (14, [.ref h1, .ref h2, .ref h3, .ref h4, .int 0, .ref h5, .ref h6, .ref h7, .ref h8, .ref h9, .ref h10, .ref h11, .ref h12, .int (-1), .int 0, .int 0, .int (-1), .int (-1)])), (h1, .inr (10, [.ref h13, .int 0, .int 0, .int 0])), (h13, .inl (k0, 200, .inl (fun _ => 0)))] := hD_9
        clear hP_8 hD_8 hS_8 hK_8 hPc_9 hDc_9 hKc_9 hFc_9 hP1_9 hK1_9 hD1_9 hk_9 hz_9
        refine lv_if_ne (tgt := 38) hx hb dX11_feed_32 (by decide) (fun _ => ?_) (fun c_ => absurd c_ (by decide))
        refine lv_iinc (v := 3) (lv' := [(4, .int 3), (0, .ref h0), (1, .int 4), (2, .long w0)]) hx hb dX11_feed_38 hl_7 (k := 0) rfl (by decide) (by decide) rfl (fun ls_10 hl_10 => ?_)
        clear hl_7
        refine lv_goto (tgt := 17) hx hb dX11_feed_41 (by decide) ?_
        refine lv_iload hx hb dX11_feed_17 (lv_at hl_10 0 rfl) ?_
        refine lv_iload_n hx hb dX11_feed_19 rfl (lv_at hl_10 2 rfl) ?_
        refine lv_icmp_ge (tgt := 44) hx hb dX11_feed_20 (by decide) (fun c_ => absurd c_ (by decide)) (fun _ => ?_)
        refine lv_lload_n hx hb dX11_feed_23 rfl (lv_at hl_10 3 rfl) ?_
        refine lv_iload hx hb dX11_feed_24 (lv_at hl_10 0 rfl) ?_
        have hPc_11 := hP_9.sub (ws' := []) [] rfl
        have hDc_11 := hD_9.sub (ws' := []) [] (by decide) rfl
        have hKc_11 := hK_9.sub (tys' := []) [] rfl
        have hFc_11 := va_free (wc := []) hD_9 hS_9 hA [] rfl
        refine va_calli (va_runS (As := [.long w0, .int 3]) (rest := []) ⟨hx, hb, hml, hown, ht⟩ (mt_X11_byteOf_v4 l dC dI w0 H_9.size) (cwS 2 ht (goodS tw_859 tw_860 tw_236 gw_X11_byteOf) rfl rfl rfl (by decide +kernel) ⟨Nat.le_of_ble_eq_true rfl, Nat.le_of_ble_eq_true rfl⟩) ⟨fun a U g mk q => by obtain ⟨q0, q1, qP, qK, qD⟩ := q; exact ⟨q0, q1, qP, va_K.moved (u := U) (U := U.calling g mk a) (Vm.Alike.refl U.vm) qK, qD⟩, fun U hU hW => ⟨rfl, by rw [hU], by rw [hU]; exact hPc_11, va_K.moved hW.alike hKc_11, hDc_11.weaken (fun _ _ _ _ => trivial)⟩⟩ rfl rfl hl_10.1 rfl (lv_room (Nat.le_of_ble_eq_true rfl)) dX11_feed_26 ⟨Nat.le_of_ble_eq_true rfl, Nat.le_of_ble_eq_true rfl⟩) hS_9 (fun q _ h => hFc_11 q h) hFc_11 (fun r_11 u_11 t_11 H_11 locs_11 ht_11 hvm_11 hw_11 hB_11 hz_11 hk_11 hS_11 => ?_)
        obtain ⟨rfl, rfl⟩ := hw_11
        obtain ⟨hP1_11, hK1_11, hD1_11⟩ := hB_11
        rw [ht_11] at hP1_11
        have hK1_11 := va_K.moved hvm_11.symm hK1_11
        obtain ⟨hP_11, hD_11⟩ := va_join (wr := [(h0, .inr (14, [.ref h1, .ref h2, .ref h3, .ref h4, .int 0, .ref h5, .ref h6, .ref h7, .ref h8, .ref h9, .ref h10, .ref h11, .ref h12, .int (-1), .int 0, .int 0, .int (-1), .int (-1)])), (h1, .inr (10, [.ref h13, .int 0, .int 0, .int 0])), (h13, .inl (k0, 200, .inl (fun _ => 0)))]) (w1 := []) hP_9 hD_9 [] [0, 1, 2] rfl rfl (by decide) (by decide) hk_11 hFc_11 hP1_11 hD1_11
        have hK_11 := (hK_9.sub (tys' := [(k0, .int)]) [0] rfl).app hK1_11
        have hK_11 : va_K (dC, dI) vwCl [(k0, .int)] s := hK_11
        have hP_11 : va_P (dC, dI) vwCl [(h0, .inr (14, [.ref h1, .ref h2, .ref h3, .ref h4, .int 0, .ref h5, .ref h6, .ref h7, .ref h8, .ref h9, .ref h10, .ref h11, .ref h12, .int (-1), .int 0, .int 0, .int (-1), .int (-1)])), (h1, .inr (10, [.ref h13, .int 0, .int 0, .int 0])), (h13, .inl (k0, 200, .inl (fun _ => 0)))] H_11 := hP_11
        have hD_11 : va_D A [(h0, .inr (14, [.ref h1, .ref h2, .ref h3, .ref h4, .int 0, .ref h5, .ref h6, .ref h7, .ref h8, .ref h9, .ref h10, .ref h11, .ref h12, .int (-1), .int 0, .int 0, .int (-1), .int (-1)])), (h1, .inr (10, [.ref h13, .int 0, .int 0, .int 0])), (h13, .inl (k0, 200, .inl (fun _ => 0)))] := hD_11
        clear hP_9 hD_9 hS_9 hK_9 hPc_11 hDc_11 hKc_11 hFc_11 hP1_11 hK1_11 hD1_11 hk_11 hz_11
        have hPc_12 := hP_11.sub (ws' := []) [] rfl
        have hDc_12 := hD_11.sub (ws' := []) [] (by decide) rfl
        have hKc_12 := hK_11.sub (tys' := []) [] rfl
        have hFc_12 := va_free (wc := []) hD_11 hS_11 hA [] rfl
        refine va_calli (va_runS (As := [.int (((w0.toUInt64 >>> ((24 : Int32).toInt64.toUInt64 &&& Int64.toUInt64 63)).toInt64).toInt32 &&& 255)]) (rest := []) ⟨hx, hb, hml, hown, ht⟩ (mt_X11_isTapeSign l dC dI (((w0.toUInt64 >>> ((24 : Int32).toInt64.toUInt64 &&& Int64.toUInt64 63)).toInt64).toInt32 &&& 255) H_11.size) (cwS 1 ht (goodS tw_862 tw_863 tw_236 gw_X11_isTapeSign) rfl rfl rfl (by decide +kernel) ⟨Nat.le_of_ble_eq_true rfl, Nat.le_of_ble_eq_true rfl⟩) ⟨fun a U g mk q => by obtain ⟨q0, q1, qP, qK, qD⟩ := q; exact ⟨q0, q1, qP, va_K.moved (u := U) (U := U.calling g mk a) (Vm.Alike.refl U.vm) qK, qD⟩, fun U hU hW => ⟨rfl, by rw [hU], by rw [hU]; exact hPc_12, va_K.moved hW.alike hKc_12, hDc_12.weaken (fun _ _ _ _ => trivial)⟩⟩ rfl rfl hl_10.1 rfl (lv_room (Nat.le_of_ble_eq_true rfl)) dX11_feed_29 ⟨Nat.le_of_ble_eq_true rfl, Nat.le_of_ble_eq_true rfl⟩) hS_11 (fun q _ h => hFc_12 q h) hFc_12 (fun r_12 u_12 t_12 H_12 locs_12 ht_12 hvm_12 hw_12 hB_12 hz_12 hk_12 hS_12 => ?_)
        rcases hw_12 with ⟨rfl, rfl, cc_12_0⟩ | ⟨rfl, rfl, cc_12_0, cc_12_1⟩ | ⟨rfl, rfl, cc_12_0, cc_12_1⟩
        · obtain ⟨hP1_12, hK1_12, hD1_12⟩ := hB_12
          rw [ht_12] at hP1_12
          have hK1_12 := va_K.moved hvm_12.symm hK1_12
          obtain ⟨hP_12, hD_12⟩ := va_join (wr := [(h0, .inr (14, [.ref h1, .ref h2, .ref h3, .ref h4, .int 0, .ref h5, .ref h6, .ref h7, .ref h8, .ref h9, .ref h10, .ref h11, .ref h12, .int (-1), .int 0, .int 0, .int (-1), .int (-1)])), (h1, .inr (10, [.ref h13, .int 0, .int 0, .int 0])), (h13, .inl (k0, 200, .inl (fun _ => 0)))]) (w1 := []) hP_11 hD_11 [] [0, 1, 2] rfl rfl (by decide) (by decide) hk_12 hFc_12 hP1_12 hD1_12
          have hK_12 := (hK_11.sub (tys' := [(k0, .int)]) [0] rfl).app hK1_12
          have hK_12 : va_K (dC, dI) vwCl [(k0, .int)] s := hK_12
          have hP_12 : va_P (dC, dI) vwCl [(h0, .inr (14, [.ref h1, .ref h2, .ref h3, .ref h4, .int 0, .ref h5, .ref h6, .ref h7, .ref h8, .ref h9, .ref h10, .ref h11, .ref h12, .int (-1), .int 0, .int 0, .int (-1), .int (-1)])), (h1, .inr (10, [.ref h13, .int 0, .int 0, .int 0])), (h13, .inl (k0, 200, .inl (fun _ => 0)))] H_12 := hP_12
          have hD_12 : va_D A [(h0, .inr (14, [.ref h1, .ref h2, .ref h3, .ref h4, .int 0, .ref h5, .ref h6, .ref h7, .ref h8, .ref h9, .ref h10, .ref h11, .ref h12, .int (-1), .int 0, .int 0, .int (-1), .int (-1)])), (h1, .inr (10, [.ref h13, .int 0, .int 0, .int 0])), (h13, .inl (k0, 200, .inl (fun _ => 0)))] := hD_12
          clear hP_11 hD_11 hS_11 hK_11 hPc_12 hDc_12 hKc_12 hFc_12 hP1_12 hK1_12 hD1_12 hk_12 hz_12
          refine lv_if_ne (tgt := 38) hx hb dX11_feed_32 (by decide) (fun c_ => absurd (by decide) c_) (fun _ => ?_)
          refine lv_bipush (v := (-4)) hx hb dX11_feed_35 (by decide) ?_
          have hP9 := hP_12.sub (ws' := []) [] rfl
          have hD9 := hD_12.sub (ws' := []) [] (by decide) rfl
          have hK9 := hK_12.sub (tys' := []) [] rfl
          refine W.widen (k := 0) (n := 0) (by decide) (by decide) ?_
          exact W.iret (v := (-4)) hx hb hr (fun t9 ht9 hW9 => ⟨⟨(-4), 0, rfl, (Or.inl ⟨rfl, rfl, (fun h => h.2.2.2.2.2.2.1 cc_12_0)⟩), ⟨by rw [ht9]; exact hP9, va_K.moved hW9.alike hK9, hD9⟩⟩, hS_12.F ht9⟩) hS_12.2.2 dX11_feed_37
        · obtain ⟨hP1_12, hK1_12, hD1_12⟩ := hB_12
          rw [ht_12] at hP1_12
          have hK1_12 := va_K.moved hvm_12.symm hK1_12
          obtain ⟨hP_12, hD_12⟩ := va_join (wr := [(h0, .inr (14, [.ref h1, .ref h2, .ref h3, .ref h4, .int 0, .ref h5, .ref h6, .ref h7, .ref h8, .ref h9, .ref h10, .ref h11, .ref h12, .int (-1), .int 0, .int 0, .int (-1), .int (-1)])), (h1, .inr (10, [.ref h13, .int 0, .int 0, .int 0])), (h13, .inl (k0, 200, .inl (fun _ => 0)))]) (w1 := []) hP_11 hD_11 [] [0, 1, 2] rfl rfl (by decide) (by decide) hk_12 hFc_12 hP1_12 hD1_12
          have hK_12 := (hK_11.sub (tys' := [(k0, .int)]) [0] rfl).app hK1_12
          have hK_12 : va_K (dC, dI) vwCl [(k0, .int)] s := hK_12
          have hP_12 : va_P (dC, dI) vwCl [(h0, .inr (14, [.ref h1, .ref h2, .ref h3, .ref h4, .int 0, .ref h5, .ref h6, .ref h7, .ref h8, .ref h9, .ref h10, .ref h11, .ref h12, .int (-1), .int 0, .int 0, .int (-1), .int (-1)])), (h1, .inr (10, [.ref h13, .int 0, .int 0, .int 0])), (h13, .inl (k0, 200, .inl (fun _ => 0)))] H_12 := hP_12
          have hD_12 : va_D A [(h0, .inr (14, [.ref h1, .ref h2, .ref h3, .ref h4, .int 0, .ref h5, .ref h6, .ref h7, .ref h8, .ref h9, .ref h10, .ref h11, .ref h12, .int (-1), .int 0, .int 0, .int (-1), .int (-1)])), (h1, .inr (10, [.ref h13, .int 0, .int 0, .int 0])), (h13, .inl (k0, 200, .inl (fun _ => 0)))] := hD_12
          clear hP_11 hD_11 hS_11 hK_11 hPc_12 hDc_12 hKc_12 hFc_12 hP1_12 hK1_12 hD1_12 hk_12 hz_12
          refine lv_if_ne (tgt := 38) hx hb dX11_feed_32 (by decide) (fun c_ => absurd (by decide) c_) (fun _ => ?_)
          refine lv_bipush (v := (-4)) hx hb dX11_feed_35 (by decide) ?_
          have hP9 := hP_12.sub (ws' := []) [] rfl
          have hD9 := hD_12.sub (ws' := []) [] (by decide) rfl
          have hK9 := hK_12.sub (tys' := []) [] rfl
          refine W.widen (k := 0) (n := 0) (by decide) (by decide) ?_
          exact W.iret (v := (-4)) hx hb hr (fun t9 ht9 hW9 => ⟨⟨(-4), 0, rfl, (Or.inl ⟨rfl, rfl, (fun h => h.2.2.2.2.2.2.2 cc_12_1)⟩), ⟨by rw [ht9]; exact hP9, va_K.moved hW9.alike hK9, hD9⟩⟩, hS_12.F ht9⟩) hS_12.2.2 dX11_feed_37
        · obtain ⟨hP1_12, hK1_12, hD1_12⟩ := hB_12
          rw [ht_12] at hP1_12
          have hK1_12 := va_K.moved hvm_12.symm hK1_12
          obtain ⟨hP_12, hD_12⟩ := va_join (wr := [(h0, .inr (14, [.ref h1, .ref h2, .ref h3, .ref h4, .int 0, .ref h5, .ref h6, .ref h7, .ref h8, .ref h9, .ref h10, .ref h11, .ref h12, .int (-1), .int 0, .int 0, .int (-1), .int (-1)])), (h1, .inr (10, [.ref h13, .int 0, .int 0, .int 0])), (h13, .inl (k0, 200, .inl (fun _ => 0)))]) (w1 := []) hP_11 hD_11 [] [0, 1, 2] rfl rfl (by decide) (by decide) hk_12 hFc_12 hP1_12 hD1_12
          have hK_12 := (hK_11.sub (tys' := [(k0, .int)]) [0] rfl).app hK1_12
          have hK_12 : va_K (dC, dI) vwCl [(k0, .int)] s := hK_12
          have hP_12 : va_P (dC, dI) vwCl [(h0, .inr (14, [.ref h1, .ref h2, .ref h3, .ref h4, .int 0, .ref h5, .ref h6, .ref h7, .ref h8, .ref h9, .ref h10, .ref h11, .ref h12, .int (-1), .int 0, .int 0, .int (-1), .int (-1)])), (h1, .inr (10, [.ref h13, .int 0, .int 0, .int 0])), (h13, .inl (k0, 200, .inl (fun _ => 0)))] H_12 := hP_12
          have hD_12 : va_D A [(h0, .inr (14, [.ref h1, .ref h2, .ref h3, .ref h4, .int 0, .ref h5, .ref h6, .ref h7, .ref h8, .ref h9, .ref h10, .ref h11, .ref h12, .int (-1), .int 0, .int 0, .int (-1), .int (-1)])), (h1, .inr (10, [.ref h13, .int 0, .int 0, .int 0])), (h13, .inl (k0, 200, .inl (fun _ => 0)))] := hD_12
          clear hP_11 hD_11 hS_11 hK_11 hPc_12 hDc_12 hKc_12 hFc_12 hP1_12 hK1_12 hD1_12 hk_12 hz_12
          refine lv_if_ne (tgt := 38) hx hb dX11_feed_32 (by decide) (fun _ => ?_) (fun c_ => absurd c_ (by decide))
          refine lv_iinc (v := 4) (lv' := [(4, .int 4), (0, .ref h0), (1, .int 4), (2, .long w0)]) hx hb dX11_feed_38 hl_10 (k := 0) rfl (by decide) (by decide) rfl (fun ls_13 hl_13 => ?_)
          clear hl_10
          refine lv_goto (tgt := 17) hx hb dX11_feed_41 (by decide) ?_
          refine lv_iload hx hb dX11_feed_17 (lv_at hl_13 0 rfl) ?_
          refine lv_iload_n hx hb dX11_feed_19 rfl (lv_at hl_13 2 rfl) ?_
          refine lv_icmp_ge (tgt := 44) hx hb dX11_feed_20 (by decide) (fun _ => ?_) (fun c_ => absurd (by decide) c_)
          refine lv_aload_n hx hb dX11_feed_44 rfl (lv_at hl_13 1 rfl) ?_
          refine va_get (D := (dC, dI)) (ci := 14) (v := .ref h1) (C := RX11) (T := TX11) (N := 18) hx hb ht inX11 hown hK_12 hP_12 0 rfl rfl 0 (by decide) (ht _ tw_800) (fun _ h9 => h9) rfl dX11_feed_45 ?_
          refine va_get (D := (dC, dI)) (ci := 10) (v := .int 0) (C := RX7) (T := TX7) (N := 4) hx hb ht inX7 hown hK_12 hP_12 1 rfl rfl 1 (by decide) (ht _ tw_278) (fun _ h9 => h9) rfl dX11_feed_48 ?_
          refine lv_iload_n hx hb dX11_feed_51 rfl (lv_at hl_13 2 rfl) ?_
          refine lv_iadd hx hb dX11_feed_52 ?_
          refine lv_topi (fun x_14 ex_14 => ?_)
          obtain rfl : x_14 = 4 := ex_14.trans (by decide)
          refine lv_sipush (v := 200) hx hb dX11_feed_53 (by decide) ?_
          refine lv_icmp_le (tgt := 62) hx hb dX11_feed_56 (by decide) (fun _ => ?_) (fun c_ => absurd (by decide) c_)
          refine lv_iload_n hx hb dX11_feed_62 rfl (lv_at hl_13 2 rfl) ?_
          refine lv_iconst (v := 1) hx hb dX11_feed_63 (by decide) ?_
          refine lv_isub hx hb dX11_feed_64 ?_
          refine lv_topi (fun x_15 ex_15 => ?_)
          obtain rfl : x_15 = 3 := ex_15.trans (by decide)
          refine lv_istore (lv' := [(4, .int 3), (0, .ref h0), (1, .int 4), (2, .long w0)]) hx hb dX11_feed_65 hl_13 (by decide) rfl (fun ls_16 hl_16 => ?_)
          clear hl_13
          refine lv_iload hx hb dX11_feed_67 (lv_at hl_16 0 rfl) ?_
          refine lv_if_lt (tgt := 91) hx hb dX11_feed_69 (by decide) (fun c_ => absurd c_ (by decide)) (fun _ => ?_)
          refine lv_aload_n hx hb dX11_feed_72 rfl (lv_at hl_16 1 rfl) ?_
          refine va_get (D := (dC, dI)) (ci := 14) (v := .ref h1) (C := RX11) (T := TX11) (N := 18) hx hb ht inX11 hown hK_12 hP_12 0 rfl rfl 0 (by decide) (ht _ tw_800) (fun _ h9 => h9) rfl dX11_feed_73 ?_
          refine lv_lload_n hx hb dX11_feed_76 rfl (lv_at hl_16 3 rfl) ?_
          refine lv_iload hx hb dX11_feed_77 (lv_at hl_16 0 rfl) ?_
          have hPc_17 := hP_12.sub (ws' := []) [] rfl
          have hDc_17 := hD_12.sub (ws' := []) [] (by decide) rfl
          have hKc_17 := hK_12.sub (tys' := []) [] rfl
          have hFc_17 := va_free (wc := []) hD_12 hS_12 hA [] rfl
          refine va_calli (va_runS (As := [.long w0, .int 3]) (rest := [.ref h1]) ⟨hx, hb, hml, hown, ht⟩ (mt_X11_byteOf_v4 l dC dI w0 H_12.size) (cwS 2 ht (goodS tw_859 tw_860 tw_236 gw_X11_byteOf) rfl rfl rfl (by decide +kernel) ⟨Nat.le_of_ble_eq_true rfl, Nat.le_of_ble_eq_true rfl⟩) ⟨fun a U g mk q => by obtain ⟨q0, q1, qP, qK, qD⟩ := q; exact ⟨q0, q1, qP, va_K.moved (u := U) (U := U.calling g mk a) (Vm.Alike.refl U.vm) qK, qD⟩, fun U hU hW => ⟨rfl, by rw [hU], by rw [hU]; exact hPc_17, va_K.moved hW.alike hKc_17, hDc_17.weaken (fun _ _ _ _ => trivial)⟩⟩ rfl rfl hl_16.1 rfl (lv_room (Nat.le_of_ble_eq_true rfl)) dX11_feed_79 ⟨Nat.le_of_ble_eq_true rfl, Nat.le_of_ble_eq_true rfl⟩) hS_12 (fun q _ h => hFc_17 q h) hFc_17 (fun r_17 u_17 t_17 H_17 locs_17 ht_17 hvm_17 hw_17 hB_17 hz_17 hk_17 hS_17 => ?_)
          obtain ⟨rfl, rfl⟩ := hw_17
          obtain ⟨hP1_17, hK1_17, hD1_17⟩ := hB_17
          rw [ht_17] at hP1_17
          have hK1_17 := va_K.moved hvm_17.symm hK1_17
          obtain ⟨hP_17, hD_17⟩ := va_join (wr := [(h0, .inr (14, [.ref h1, .ref h2, .ref h3, .ref h4, .int 0, .ref h5, .ref h6, .ref h7, .ref h8, .ref h9, .ref h10, .ref h11, .ref h12, .int (-1), .int 0, .int 0, .int (-1), .int (-1)])), (h1, .inr (10, [.ref h13, .int 0, .int 0, .int 0])), (h13, .inl (k0, 200, .inl (fun _ => 0)))]) (w1 := []) hP_12 hD_12 [] [0, 1, 2] rfl rfl (by decide) (by decide) hk_17 hFc_17 hP1_17 hD1_17
          have hK_17 := (hK_12.sub (tys' := [(k0, .int)]) [0] rfl).app hK1_17
          have hK_17 : va_K (dC, dI) vwCl [(k0, .int)] s := hK_17
          have hP_17 : va_P (dC, dI) vwCl [(h0, .inr (14, [.ref h1, .ref h2, .ref h3, .ref h4, .int 0, .ref h5, .ref h6, .ref h7, .ref h8, .ref h9, .ref h10, .ref h11, .ref h12, .int (-1), .int 0, .int 0, .int (-1), .int (-1)])), (h1, .inr (10, [.ref h13, .int 0, .int 0, .int 0])), (h13, .inl (k0, 200, .inl (fun _ => 0)))] H_17 := hP_17
          have hD_17 : va_D A [(h0, .inr (14, [.ref h1, .ref h2, .ref h3, .ref h4, .int 0, .ref h5, .ref h6, .ref h7, .ref h8, .ref h9, .ref h10, .ref h11, .ref h12, .int (-1), .int 0, .int 0, .int (-1), .int (-1)])), (h1, .inr (10, [.ref h13, .int 0, .int 0, .int 0])), (h13, .inl (k0, 200, .inl (fun _ => 0)))] := hD_17
          clear hP_12 hD_12 hS_12 hK_12 hPc_17 hDc_17 hKc_17 hFc_17 hP1_17 hK1_17 hD1_17 hk_17 hz_17
          have hPc_18 := hP_17.sub (ws' := [(h1, .inr (10, [.ref h13, .int 0, .int 0, .int 0])), (h13, .inl (k0, 200, .inl (fun _ => 0)))]) [1, 2] rfl
          have hDc_18 := hD_17.sub (ws' := [(h1, .inr (10, [.ref h13, .int 0, .int 0, .int 0])), (h13, .inl (k0, 200, .inl (fun _ => 0)))]) [1, 2] (by decide) rfl
          have hKc_18 := hK_17.sub (tys' := [(k0, .int)]) [0] rfl
          have hFc_18 := va_free (wc := [(h1, .inr (10, [.ref h13, .int 0, .int 0, .int 0])), (h13, .inl (k0, 200, .inl (fun _ => 0)))]) hD_17 hS_17 hA [1, 2] rfl
          refine va_callv (va_runV (As := [.int (((w0.toUInt64 >>> ((24 : Int32).toInt64.toUInt64 &&& Int64.toUInt64 63)).toInt64).toInt32 &&& 255)]) (rest := []) ⟨hx, hb, hml, hown, ht⟩ (mt_X7_add l dC dI h1 h13 k0 (((w0.toUInt64 >>> ((24 : Int32).toInt64.toUInt64 &&& Int64.toUInt64 63)).toInt64).toInt32 &&& 255) H_17.size) (cwV 1 ht (goodV tw_865 tw_866 tw_867 tw_237 gw_X7_add) rfl rfl rfl (by decide +kernel) ⟨Nat.le_of_ble_eq_true rfl, Nat.le_of_ble_eq_true rfl⟩) ⟨fun a U g mk q => by obtain ⟨q0, q1, qP, qK, qD⟩ := q; exact ⟨q0, q1, qP, va_K.moved (u := U) (U := U.calling g mk a) (Vm.Alike.refl U.vm) qK, qD⟩, va_recv hKc_18 hPc_18 (ci := 10) (q0 := 0) rfl rfl, fun U hU hW => ⟨rfl, by rw [hU], by rw [hU]; exact hPc_18, va_K.moved hW.alike hKc_18, hDc_18.weaken (fun _ _ _ _ => trivial)⟩⟩ rfl rfl hl_16.1 rfl (lv_room (Nat.le_of_ble_eq_true rfl)) dX11_feed_82 ⟨Nat.le_of_ble_eq_true rfl, Nat.le_of_ble_eq_true rfl⟩) hS_17 (fun q _ h => hFc_18 q h) hFc_18 (fun u_18 t_18 H_18 locs_18 ht_18 hvm_18 hw_18 hB_18 hz_18 hk_18 hS_18 => ?_)
          obtain rfl := hw_18
          obtain ⟨hP1_18, hK1_18, hD1_18⟩ := hB_18
          rw [ht_18] at hP1_18
          have hK1_18 := va_K.moved hvm_18.symm hK1_18
          obtain ⟨hP_18, hD_18⟩ := va_join (wr := [(h0, .inr (14, [.ref h1, .ref h2, .ref h3, .ref h4, .int 0, .ref h5, .ref h6, .ref h7, .ref h8, .ref h9, .ref h10, .ref h11, .ref h12, .int (-1), .int 0, .int 0, .int (-1), .int (-1)]))]) (w1 := [(h1, .inr (10, [.ref h13, .int 1, .int 0, .int 0])), (h13, .inl (k0, 200, .inl (upd (fun _ => 0) 0 (((w0.toUInt64 >>> ((24 : Int32).toInt64.toUInt64 &&& Int64.toUInt64 63)).toInt64).toInt32 &&& 255))))]) hP_17 hD_17 [1, 2] [0] rfl rfl (by decide) (by decide) hk_18 hFc_18 hP1_18 hD1_18
          have hK_18 := (hK_17.sub (tys' := []) [] rfl).app hK1_18
          have hK_18 : va_K (dC, dI) vwCl [(k0, .int)] s := hK_18
          have hP_18 : va_P (dC, dI) vwCl [(h0, .inr (14, [.ref h1, .ref h2, .ref h3, .ref h4, .int 0, .ref h5, .ref h6, .ref h7, .ref h8, .ref h9, .ref h10, .ref h11, .ref h12, .int (-1), .int 0, .int 0, .int (-1), .int (-1)])), (h1, .inr (10, [.ref h13, .int 1, .int 0, .int 0])), (h13, .inl (k0, 200, .inl (upd (fun _ => 0) 0 (((w0.toUInt64 >>> ((24 : Int32).toInt64.toUInt64 &&& Int64.toUInt64 63)).toInt64).toInt32 &&& 255))))] H_18 := hP_18
          have hD_18 : va_D A [(h0, .inr (14, [.ref h1, .ref h2, .ref h3, .ref h4, .int 0, .ref h5, .ref h6, .ref h7, .ref h8, .ref h9, .ref h10, .ref h11, .ref h12, .int (-1), .int 0, .int 0, .int (-1), .int (-1)])), (h1, .inr (10, [.ref h13, .int 1, .int 0, .int 0])), (h13, .inl (k0, 200, .inl (upd (fun _ => 0) 0 (((w0.toUInt64 >>> ((24 : Int32).toInt64.toUInt64 &&& Int64.toUInt64 63)).toInt64).toInt32 &&& 255))))] := hD_18
          clear hP_17 hD_17 hS_17 hK_17 hPc_18 hDc_18 hKc_18 hFc_18 hP1_18 hK1_18 hD1_18 hk_18 hz_18
          refine lv_iinc (v := 2) (lv' := [(4, .int 2), (0, .ref h0), (1, .int 4), (2, .long w0)]) hx hb dX11_feed_85 hl_16 (k := 0) rfl (by decide) (by decide) rfl (fun ls_19 hl_19 => ?_)
          clear hl_16
          refine lv_goto (tgt := 67) hx hb dX11_feed_88 (by decide) ?_
          refine lv_iload hx hb dX11_feed_67 (lv_at hl_19 0 rfl) ?_
          refine lv_if_lt (tgt := 91) hx hb dX11_feed_69 (by decide) (fun c_ => absurd c_ (by decide)) (fun _ => ?_)
          refine lv_aload_n hx hb dX11_feed_72 rfl (lv_at hl_19 1 rfl) ?_
          refine va_get (D := (dC, dI)) (ci := 14) (v := .ref h1) (C := RX11) (T := TX11) (N := 18) hx hb ht inX11 hown hK_18 hP_18 0 rfl rfl 0 (by decide) (ht _ tw_800) (fun _ h9 => h9) rfl dX11_feed_73 ?_
          refine lv_lload_n hx hb dX11_feed_76 rfl (lv_at hl_19 3 rfl) ?_
          refine lv_iload hx hb dX11_feed_77 (lv_at hl_19 0 rfl) ?_
          have hPc_20 := hP_18.sub (ws' := []) [] rfl
          have hDc_20 := hD_18.sub (ws' := []) [] (by decide) rfl
          have hKc_20 := hK_18.sub (tys' := []) [] rfl
          have hFc_20 := va_free (wc := []) hD_18 hS_18 hA [] rfl
          refine va_calli (va_runS (As := [.long w0, .int 2]) (rest := [.ref h1]) ⟨hx, hb, hml, hown, ht⟩ (mt_X11_byteOf_v3 l dC dI w0 H_18.size) (cwS 2 ht (goodS tw_859 tw_860 tw_236 gw_X11_byteOf) rfl rfl rfl (by decide +kernel) ⟨Nat.le_of_ble_eq_true rfl, Nat.le_of_ble_eq_true rfl⟩) ⟨fun a U g mk q => by obtain ⟨q0, q1, qP, qK, qD⟩ := q; exact ⟨q0, q1, qP, va_K.moved (u := U) (U := U.calling g mk a) (Vm.Alike.refl U.vm) qK, qD⟩, fun U hU hW => ⟨rfl, by rw [hU], by rw [hU]; exact hPc_20, va_K.moved hW.alike hKc_20, hDc_20.weaken (fun _ _ _ _ => trivial)⟩⟩ rfl rfl hl_19.1 rfl (lv_room (Nat.le_of_ble_eq_true rfl)) dX11_feed_79 ⟨Nat.le_of_ble_eq_true rfl, Nat.le_of_ble_eq_true rfl⟩) hS_18 (fun q _ h => hFc_20 q h) hFc_20 (fun r_20 u_20 t_20 H_20 locs_20 ht_20 hvm_20 hw_20 hB_20 hz_20 hk_20 hS_20 => ?_)
          obtain ⟨rfl, rfl⟩ := hw_20
          obtain ⟨hP1_20, hK1_20, hD1_20⟩ := hB_20
          rw [ht_20] at hP1_20
          have hK1_20 := va_K.moved hvm_20.symm hK1_20
          obtain ⟨hP_20, hD_20⟩ := va_join (wr := [(h0, .inr (14, [.ref h1, .ref h2, .ref h3, .ref h4, .int 0, .ref h5, .ref h6, .ref h7, .ref h8, .ref h9, .ref h10, .ref h11, .ref h12, .int (-1), .int 0, .int 0, .int (-1), .int (-1)])), (h1, .inr (10, [.ref h13, .int 1, .int 0, .int 0])), (h13, .inl (k0, 200, .inl (upd (fun _ => 0) 0 (((w0.toUInt64 >>> ((24 : Int32).toInt64.toUInt64 &&& Int64.toUInt64 63)).toInt64).toInt32 &&& 255))))]) (w1 := []) hP_18 hD_18 [] [0, 1, 2] rfl rfl (by decide) (by decide) hk_20 hFc_20 hP1_20 hD1_20
          have hK_20 := (hK_18.sub (tys' := [(k0, .int)]) [0] rfl).app hK1_20
          have hK_20 : va_K (dC, dI) vwCl [(k0, .int)] s := hK_20
          have hP_20 : va_P (dC, dI) vwCl [(h0, .inr (14, [.ref h1, .ref h2, .ref h3, .ref h4, .int 0, .ref h5, .ref h6, .ref h7, .ref h8, .ref h9, .ref h10, .ref h11, .ref h12, .int (-1), .int 0, .int 0, .int (-1), .int (-1)])), (h1, .inr (10, [.ref h13, .int 1, .int 0, .int 0])), (h13, .inl (k0, 200, .inl (upd (fun _ => 0) 0 (((w0.toUInt64 >>> ((24 : Int32).toInt64.toUInt64 &&& Int64.toUInt64 63)).toInt64).toInt32 &&& 255))))] H_20 := hP_20
          have hD_20 : va_D A [(h0, .inr (14, [.ref h1, .ref h2, .ref h3, .ref h4, .int 0, .ref h5, .ref h6, .ref h7, .ref h8, .ref h9, .ref h10, .ref h11, .ref h12, .int (-1), .int 0, .int 0, .int (-1), .int (-1)])), (h1, .inr (10, [.ref h13, .int 1, .int 0, .int 0])), (h13, .inl (k0, 200, .inl (upd (fun _ => 0) 0 (((w0.toUInt64 >>> ((24 : Int32).toInt64.toUInt64 &&& Int64.toUInt64 63)).toInt64).toInt32 &&& 255))))] := hD_20
          clear hP_18 hD_18 hS_18 hK_18 hPc_20 hDc_20 hKc_20 hFc_20 hP1_20 hK1_20 hD1_20 hk_20 hz_20
          have hPc_21 := hP_20.sub (ws' := [(h1, .inr (10, [.ref h13, .int 1, .int 0, .int 0])), (h13, .inl (k0, 200, .inl (upd (fun _ => 0) 0 (((w0.toUInt64 >>> ((24 : Int32).toInt64.toUInt64 &&& Int64.toUInt64 63)).toInt64).toInt32 &&& 255))))]) [1, 2] rfl
          have hDc_21 := hD_20.sub (ws' := [(h1, .inr (10, [.ref h13, .int 1, .int 0, .int 0])), (h13, .inl (k0, 200, .inl (upd (fun _ => 0) 0 (((w0.toUInt64 >>> ((24 : Int32).toInt64.toUInt64 &&& Int64.toUInt64 63)).toInt64).toInt32 &&& 255))))]) [1, 2] (by decide) rfl
          have hKc_21 := hK_20.sub (tys' := [(k0, .int)]) [0] rfl
          have hFc_21 := va_free (wc := [(h1, .inr (10, [.ref h13, .int 1, .int 0, .int 0])), (h13, .inl (k0, 200, .inl (upd (fun _ => 0) 0 (((w0.toUInt64 >>> ((24 : Int32).toInt64.toUInt64 &&& Int64.toUInt64 63)).toInt64).toInt32 &&& 255))))]) hD_20 hS_20 hA [1, 2] rfl
          refine va_callv (va_runV (As := [.int (((w0.toUInt64 >>> ((16 : Int32).toInt64.toUInt64 &&& Int64.toUInt64 63)).toInt64).toInt32 &&& 255)]) (rest := []) ⟨hx, hb, hml, hown, ht⟩ (mt_X7_add_v2 l dC dI h1 h13 k0 (((w0.toUInt64 >>> ((16 : Int32).toInt64.toUInt64 &&& Int64.toUInt64 63)).toInt64).toInt32 &&& 255) (((w0.toUInt64 >>> ((24 : Int32).toInt64.toUInt64 &&& Int64.toUInt64 63)).toInt64).toInt32 &&& 255) H_20.size) (cwV 1 ht (goodV tw_865 tw_866 tw_867 tw_237 gw_X7_add) rfl rfl rfl (by decide +kernel) ⟨Nat.le_of_ble_eq_true rfl, Nat.le_of_ble_eq_true rfl⟩) ⟨fun a U g mk q => by obtain ⟨q0, q1, qP, qK, qD⟩ := q; exact ⟨q0, q1, qP, va_K.moved (u := U) (U := U.calling g mk a) (Vm.Alike.refl U.vm) qK, qD⟩, va_recv hKc_21 hPc_21 (ci := 10) (q0 := 0) rfl rfl, fun U hU hW => ⟨rfl, by rw [hU], by rw [hU]; exact hPc_21, va_K.moved hW.alike hKc_21, hDc_21.weaken (fun _ _ _ _ => trivial)⟩⟩ rfl rfl hl_19.1 rfl (lv_room (Nat.le_of_ble_eq_true rfl)) dX11_feed_82 ⟨Nat.le_of_ble_eq_true rfl, Nat.le_of_ble_eq_true rfl⟩) hS_20 (fun q _ h => hFc_21 q h) hFc_21 (fun u_21 t_21 H_21 locs_21 ht_21 hvm_21 hw_21 hB_21 hz_21 hk_21 hS_21 => ?_)
          obtain rfl := hw_21
          obtain ⟨hP1_21, hK1_21, hD1_21⟩ := hB_21
          rw [ht_21] at hP1_21
          have hK1_21 := va_K.moved hvm_21.symm hK1_21
          obtain ⟨hP_21, hD_21⟩ := va_join (wr := [(h0, .inr (14, [.ref h1, .ref h2, .ref h3, .ref h4, .int 0, .ref h5, .ref h6, .ref h7, .ref h8, .ref h9, .ref h10, .ref h11, .ref h12, .int (-1), .int 0, .int 0, .int (-1), .int (-1)]))]) (w1 := [(h1, .inr (10, [.ref h13, .int 2, .int 0, .int 0])), (h13, .inl (k0, 200, .inl (upd (upd (fun _ => 0) 0 (((w0.toUInt64 >>> ((24 : Int32).toInt64.toUInt64 &&& Int64.toUInt64 63)).toInt64).toInt32 &&& 255)) 1 (((w0.toUInt64 >>> ((16 : Int32).toInt64.toUInt64 &&& Int64.toUInt64 63)).toInt64).toInt32 &&& 255))))]) hP_20 hD_20 [1, 2] [0] rfl rfl (by decide) (by decide) hk_21 hFc_21 hP1_21 hD1_21
          have hK_21 := (hK_20.sub (tys' := []) [] rfl).app hK1_21
          have hK_21 : va_K (dC, dI) vwCl [(k0, .int)] s := hK_21
          have hP_21 : va_P (dC, dI) vwCl [(h0, .inr (14, [.ref h1, .ref h2, .ref h3, .ref h4, .int 0, .ref h5, .ref h6, .ref h7, .ref h8, .ref h9, .ref h10, .ref h11, .ref h12, .int (-1), .int 0, .int 0, .int (-1), .int (-1)])), (h1, .inr (10, [.ref h13, .int 2, .int 0, .int 0])), (h13, .inl (k0, 200, .inl (upd (upd (fun _ => 0) 0 (((w0.toUInt64 >>> ((24 : Int32).toInt64.toUInt64 &&& Int64.toUInt64 63)).toInt64).toInt32 &&& 255)) 1 (((w0.toUInt64 >>> ((16 : Int32).toInt64.toUInt64 &&& Int64.toUInt64 63)).toInt64).toInt32 &&& 255))))] H_21 := hP_21
          have hD_21 : va_D A [(h0, .inr (14, [.ref h1, .ref h2, .ref h3, .ref h4, .int 0, .ref h5, .ref h6, .ref h7, .ref h8, .ref h9, .ref h10, .ref h11, .ref h12, .int (-1), .int 0, .int 0, .int (-1), .int (-1)])), (h1, .inr (10, [.ref h13, .int 2, .int 0, .int 0])), (h13, .inl (k0, 200, .inl (upd (upd (fun _ => 0) 0 (((w0.toUInt64 >>> ((24 : Int32).toInt64.toUInt64 &&& Int64.toUInt64 63)).toInt64).toInt32 &&& 255)) 1 (((w0.toUInt64 >>> ((16 : Int32).toInt64.toUInt64 &&& Int64.toUInt64 63)).toInt64).toInt32 &&& 255))))] := hD_21
          clear hP_20 hD_20 hS_20 hK_20 hPc_21 hDc_21 hKc_21 hFc_21 hP1_21 hK1_21 hD1_21 hk_21 hz_21
          refine lv_iinc (v := 1) (lv' := [(4, .int 1), (0, .ref h0), (1, .int 4), (2, .long w0)]) hx hb dX11_feed_85 hl_19 (k := 0) rfl (by decide) (by decide) rfl (fun ls_22 hl_22 => ?_)
          clear hl_19
          refine lv_goto (tgt := 67) hx hb dX11_feed_88 (by decide) ?_
          refine lv_iload hx hb dX11_feed_67 (lv_at hl_22 0 rfl) ?_
          refine lv_if_lt (tgt := 91) hx hb dX11_feed_69 (by decide) (fun c_ => absurd c_ (by decide)) (fun _ => ?_)
          refine lv_aload_n hx hb dX11_feed_72 rfl (lv_at hl_22 1 rfl) ?_
          refine va_get (D := (dC, dI)) (ci := 14) (v := .ref h1) (C := RX11) (T := TX11) (N := 18) hx hb ht inX11 hown hK_21 hP_21 0 rfl rfl 0 (by decide) (ht _ tw_800) (fun _ h9 => h9) rfl dX11_feed_73 ?_
          refine lv_lload_n hx hb dX11_feed_76 rfl (lv_at hl_22 3 rfl) ?_
          refine lv_iload hx hb dX11_feed_77 (lv_at hl_22 0 rfl) ?_
          have hPc_23 := hP_21.sub (ws' := []) [] rfl
          have hDc_23 := hD_21.sub (ws' := []) [] (by decide) rfl
          have hKc_23 := hK_21.sub (tys' := []) [] rfl
          have hFc_23 := va_free (wc := []) hD_21 hS_21 hA [] rfl
          refine va_calli (va_runS (As := [.long w0, .int 1]) (rest := [.ref h1]) ⟨hx, hb, hml, hown, ht⟩ (mt_X11_byteOf_v2 l dC dI w0 H_21.size) (cwS 2 ht (goodS tw_859 tw_860 tw_236 gw_X11_byteOf) rfl rfl rfl (by decide +kernel) ⟨Nat.le_of_ble_eq_true rfl, Nat.le_of_ble_eq_true rfl⟩) ⟨fun a U g mk q => by obtain ⟨q0, q1, qP, qK, qD⟩ := q; exact ⟨q0, q1, qP, va_K.moved (u := U) (U := U.calling g mk a) (Vm.Alike.refl U.vm) qK, qD⟩, fun U hU hW => ⟨rfl, by rw [hU], by rw [hU]; exact hPc_23, va_K.moved hW.alike hKc_23, hDc_23.weaken (fun _ _ _ _ => trivial)⟩⟩ rfl rfl hl_22.1 rfl (lv_room (Nat.le_of_ble_eq_true rfl)) dX11_feed_79 ⟨Nat.le_of_ble_eq_true rfl, Nat.le_of_ble_eq_true rfl⟩) hS_21 (fun q _ h => hFc_23 q h) hFc_23 (fun r_23 u_23 t_23 H_23 locs_23 ht_23 hvm_23 hw_23 hB_23 hz_23 hk_23 hS_23 => ?_)
          obtain ⟨rfl, rfl⟩ := hw_23
          obtain ⟨hP1_23, hK1_23, hD1_23⟩ := hB_23
          rw [ht_23] at hP1_23
          have hK1_23 := va_K.moved hvm_23.symm hK1_23
          obtain ⟨hP_23, hD_23⟩ := va_join (wr := [(h0, .inr (14, [.ref h1, .ref h2, .ref h3, .ref h4, .int 0, .ref h5, .ref h6, .ref h7, .ref h8, .ref h9, .ref h10, .ref h11, .ref h12, .int (-1), .int 0, .int 0, .int (-1), .int (-1)])), (h1, .inr (10, [.ref h13, .int 2, .int 0, .int 0])), (h13, .inl (k0, 200, .inl (upd (upd (fun _ => 0) 0 (((w0.toUInt64 >>> ((24 : Int32).toInt64.toUInt64 &&& Int64.toUInt64 63)).toInt64).toInt32 &&& 255)) 1 (((w0.toUInt64 >>> ((16 : Int32).toInt64.toUInt64 &&& Int64.toUInt64 63)).toInt64).toInt32 &&& 255))))]) (w1 := []) hP_21 hD_21 [] [0, 1, 2] rfl rfl (by decide) (by decide) hk_23 hFc_23 hP1_23 hD1_23
          have hK_23 := (hK_21.sub (tys' := [(k0, .int)]) [0] rfl).app hK1_23
          have hK_23 : va_K (dC, dI) vwCl [(k0, .int)] s := hK_23
          have hP_23 : va_P (dC, dI) vwCl [(h0, .inr (14, [.ref h1, .ref h2, .ref h3, .ref h4, .int 0, .ref h5, .ref h6, .ref h7, .ref h8, .ref h9, .ref h10, .ref h11, .ref h12, .int (-1), .int 0, .int 0, .int (-1), .int (-1)])), (h1, .inr (10, [.ref h13, .int 2, .int 0, .int 0])), (h13, .inl (k0, 200, .inl (upd (upd (fun _ => 0) 0 (((w0.toUInt64 >>> ((24 : Int32).toInt64.toUInt64 &&& Int64.toUInt64 63)).toInt64).toInt32 &&& 255)) 1 (((w0.toUInt64 >>> ((16 : Int32).toInt64.toUInt64 &&& Int64.toUInt64 63)).toInt64).toInt32 &&& 255))))] H_23 := hP_23
          have hD_23 : va_D A [(h0, .inr (14, [.ref h1, .ref h2, .ref h3, .ref h4, .int 0, .ref h5, .ref h6, .ref h7, .ref h8, .ref h9, .ref h10, .ref h11, .ref h12, .int (-1), .int 0, .int 0, .int (-1), .int (-1)])), (h1, .inr (10, [.ref h13, .int 2, .int 0, .int 0])), (h13, .inl (k0, 200, .inl (upd (upd (fun _ => 0) 0 (((w0.toUInt64 >>> ((24 : Int32).toInt64.toUInt64 &&& Int64.toUInt64 63)).toInt64).toInt32 &&& 255)) 1 (((w0.toUInt64 >>> ((16 : Int32).toInt64.toUInt64 &&& Int64.toUInt64 63)).toInt64).toInt32 &&& 255))))] := hD_23
          clear hP_21 hD_21 hS_21 hK_21 hPc_23 hDc_23 hKc_23 hFc_23 hP1_23 hK1_23 hD1_23 hk_23 hz_23
          have hPc_24 := hP_23.sub (ws' := [(h1, .inr (10, [.ref h13, .int 2, .int 0, .int 0])), (h13, .inl (k0, 200, .inl (upd (upd (fun _ => 0) 0 (((w0.toUInt64 >>> ((24 : Int32).toInt64.toUInt64 &&& Int64.toUInt64 63)).toInt64).toInt32 &&& 255)) 1 (((w0.toUInt64 >>> ((16 : Int32).toInt64.toUInt64 &&& Int64.toUInt64 63)).toInt64).toInt32 &&& 255))))]) [1, 2] rfl
          have hDc_24 := hD_23.sub (ws' := [(h1, .inr (10, [.ref h13, .int 2, .int 0, .int 0])), (h13, .inl (k0, 200, .inl (upd (upd (fun _ => 0) 0 (((w0.toUInt64 >>> ((24 : Int32).toInt64.toUInt64 &&& Int64.toUInt64 63)).toInt64).toInt32 &&& 255)) 1 (((w0.toUInt64 >>> ((16 : Int32).toInt64.toUInt64 &&& Int64.toUInt64 63)).toInt64).toInt32 &&& 255))))]) [1, 2] (by decide) rfl
          have hKc_24 := hK_23.sub (tys' := [(k0, .int)]) [0] rfl
          have hFc_24 := va_free (wc := [(h1, .inr (10, [.ref h13, .int 2, .int 0, .int 0])), (h13, .inl (k0, 200, .inl (upd (upd (fun _ => 0) 0 (((w0.toUInt64 >>> ((24 : Int32).toInt64.toUInt64 &&& Int64.toUInt64 63)).toInt64).toInt32 &&& 255)) 1 (((w0.toUInt64 >>> ((16 : Int32).toInt64.toUInt64 &&& Int64.toUInt64 63)).toInt64).toInt32 &&& 255))))]) hD_23 hS_23 hA [1, 2] rfl
          refine va_callv (va_runV (As := [.int (((w0.toUInt64 >>> ((8 : Int32).toInt64.toUInt64 &&& Int64.toUInt64 63)).toInt64).toInt32 &&& 255)]) (rest := []) ⟨hx, hb, hml, hown, ht⟩ (mt_X7_add_v3 l dC dI h1 h13 k0 (((w0.toUInt64 >>> ((8 : Int32).toInt64.toUInt64 &&& Int64.toUInt64 63)).toInt64).toInt32 &&& 255) (((w0.toUInt64 >>> ((24 : Int32).toInt64.toUInt64 &&& Int64.toUInt64 63)).toInt64).toInt32 &&& 255) (((w0.toUInt64 >>> ((16 : Int32).toInt64.toUInt64 &&& Int64.toUInt64 63)).toInt64).toInt32 &&& 255) H_23.size) (cwV 1 ht (goodV tw_865 tw_866 tw_867 tw_237 gw_X7_add) rfl rfl rfl (by decide +kernel) ⟨Nat.le_of_ble_eq_true rfl, Nat.le_of_ble_eq_true rfl⟩) ⟨fun a U g mk q => by obtain ⟨q0, q1, qP, qK, qD⟩ := q; exact ⟨q0, q1, qP, va_K.moved (u := U) (U := U.calling g mk a) (Vm.Alike.refl U.vm) qK, qD⟩, va_recv hKc_24 hPc_24 (ci := 10) (q0 := 0) rfl rfl, fun U hU hW => ⟨rfl, by rw [hU], by rw [hU]; exact hPc_24, va_K.moved hW.alike hKc_24, hDc_24.weaken (fun _ _ _ _ => trivial)⟩⟩ rfl rfl hl_22.1 rfl (lv_room (Nat.le_of_ble_eq_true rfl)) dX11_feed_82 ⟨Nat.le_of_ble_eq_true rfl, Nat.le_of_ble_eq_true rfl⟩) hS_23 (fun q _ h => hFc_24 q h) hFc_24 (fun u_24 t_24 H_24 locs_24 ht_24 hvm_24 hw_24 hB_24 hz_24 hk_24 hS_24 => ?_)
          obtain rfl := hw_24
          obtain ⟨hP1_24, hK1_24, hD1_24⟩ := hB_24
          rw [ht_24] at hP1_24
          have hK1_24 := va_K.moved hvm_24.symm hK1_24
          obtain ⟨hP_24, hD_24⟩ := va_join (wr := [(h0, .inr (14, [.ref h1, .ref h2, .ref h3, .ref h4, .int 0, .ref h5, .ref h6, .ref h7, .ref h8, .ref h9, .ref h10, .ref h11, .ref h12, .int (-1), .int 0, .int 0, .int (-1), .int (-1)]))]) (w1 := [(h1, .inr (10, [.ref h13, .int 3, .int 0, .int 0])), (h13, .inl (k0, 200, .inl (upd (upd (upd (fun _ => 0) 0 (((w0.toUInt64 >>> ((24 : Int32).toInt64.toUInt64 &&& Int64.toUInt64 63)).toInt64).toInt32 &&& 255)) 1 (((w0.toUInt64 >>> ((16 : Int32).toInt64.toUInt64 &&& Int64.toUInt64 63)).toInt64).toInt32 &&& 255)) 2 (((w0.toUInt64 >>> ((8 : Int32).toInt64.toUInt64 &&& Int64.toUInt64 63)).toInt64).toInt32 &&& 255))))]) hP_23 hD_23 [1, 2] [0] rfl rfl (by decide) (by decide) hk_24 hFc_24 hP1_24 hD1_24
          have hK_24 := (hK_23.sub (tys' := []) [] rfl).app hK1_24
          have hK_24 : va_K (dC, dI) vwCl [(k0, .int)] s := hK_24
          have hP_24 : va_P (dC, dI) vwCl [(h0, .inr (14, [.ref h1, .ref h2, .ref h3, .ref h4, .int 0, .ref h5, .ref h6, .ref h7, .ref h8, .ref h9, .ref h10, .ref h11, .ref h12, .int (-1), .int 0, .int 0, .int (-1), .int (-1)])), (h1, .inr (10, [.ref h13, .int 3, .int 0, .int 0])), (h13, .inl (k0, 200, .inl (upd (upd (upd (fun _ => 0) 0 (((w0.toUInt64 >>> ((24 : Int32).toInt64.toUInt64 &&& Int64.toUInt64 63)).toInt64).toInt32 &&& 255)) 1 (((w0.toUInt64 >>> ((16 : Int32).toInt64.toUInt64 &&& Int64.toUInt64 63)).toInt64).toInt32 &&& 255)) 2 (((w0.toUInt64 >>> ((8 : Int32).toInt64.toUInt64 &&& Int64.toUInt64 63)).toInt64).toInt32 &&& 255))))] H_24 := hP_24
          have hD_24 : va_D A [(h0, .inr (14, [.ref h1, .ref h2, .ref h3, .ref h4, .int 0, .ref h5, .ref h6, .ref h7, .ref h8, .ref h9, .ref h10, .ref h11, .ref h12, .int (-1), .int 0, .int 0, .int (-1), .int (-1)])), (h1, .inr (10, [.ref h13, .int 3, .int 0, .int 0])), (h13, .inl (k0, 200, .inl (upd (upd (upd (fun _ => 0) 0 (((w0.toUInt64 >>> ((24 : Int32).toInt64.toUInt64 &&& Int64.toUInt64 63)).toInt64).toInt32 &&& 255)) 1 (((w0.toUInt64 >>> ((16 : Int32).toInt64.toUInt64 &&& Int64.toUInt64 63)).toInt64).toInt32 &&& 255)) 2 (((w0.toUInt64 >>> ((8 : Int32).toInt64.toUInt64 &&& Int64.toUInt64 63)).toInt64).toInt32 &&& 255))))] := hD_24
          clear hP_23 hD_23 hS_23 hK_23 hPc_24 hDc_24 hKc_24 hFc_24 hP1_24 hK1_24 hD1_24 hk_24 hz_24
          refine lv_iinc (v := 0) (lv' := [(4, .int 0), (0, .ref h0), (1, .int 4), (2, .long w0)]) hx hb dX11_feed_85 hl_22 (k := 0) rfl (by decide) (by decide) rfl (fun ls_25 hl_25 => ?_)
          clear hl_22
          refine lv_goto (tgt := 67) hx hb dX11_feed_88 (by decide) ?_
          refine lv_iload hx hb dX11_feed_67 (lv_at hl_25 0 rfl) ?_
          refine lv_if_lt (tgt := 91) hx hb dX11_feed_69 (by decide) (fun c_ => absurd c_ (by decide)) (fun _ => ?_)
          refine lv_aload_n hx hb dX11_feed_72 rfl (lv_at hl_25 1 rfl) ?_
          refine va_get (D := (dC, dI)) (ci := 14) (v := .ref h1) (C := RX11) (T := TX11) (N := 18) hx hb ht inX11 hown hK_24 hP_24 0 rfl rfl 0 (by decide) (ht _ tw_800) (fun _ h9 => h9) rfl dX11_feed_73 ?_
          refine lv_lload_n hx hb dX11_feed_76 rfl (lv_at hl_25 3 rfl) ?_
          refine lv_iload hx hb dX11_feed_77 (lv_at hl_25 0 rfl) ?_
          have hPc_26 := hP_24.sub (ws' := []) [] rfl
          have hDc_26 := hD_24.sub (ws' := []) [] (by decide) rfl
          have hKc_26 := hK_24.sub (tys' := []) [] rfl
          have hFc_26 := va_free (wc := []) hD_24 hS_24 hA [] rfl
          refine va_calli (va_runS (As := [.long w0, .int 0]) (rest := [.ref h1]) ⟨hx, hb, hml, hown, ht⟩ (mt_X11_byteOf l dC dI w0 H_24.size) (cwS 2 ht (goodS tw_859 tw_860 tw_236 gw_X11_byteOf) rfl rfl rfl (by decide +kernel) ⟨Nat.le_of_ble_eq_true rfl, Nat.le_of_ble_eq_true rfl⟩) ⟨fun a U g mk q => by obtain ⟨q0, q1, qP, qK, qD⟩ := q; exact ⟨q0, q1, qP, va_K.moved (u := U) (U := U.calling g mk a) (Vm.Alike.refl U.vm) qK, qD⟩, fun U hU hW => ⟨rfl, by rw [hU], by rw [hU]; exact hPc_26, va_K.moved hW.alike hKc_26, hDc_26.weaken (fun _ _ _ _ => trivial)⟩⟩ rfl rfl hl_25.1 rfl (lv_room (Nat.le_of_ble_eq_true rfl)) dX11_feed_79 ⟨Nat.le_of_ble_eq_true rfl, Nat.le_of_ble_eq_true rfl⟩) hS_24 (fun q _ h => hFc_26 q h) hFc_26 (fun r_26 u_26 t_26 H_26 locs_26 ht_26 hvm_26 hw_26 hB_26 hz_26 hk_26 hS_26 => ?_)
          obtain ⟨rfl, rfl⟩ := hw_26
          obtain ⟨hP1_26, hK1_26, hD1_26⟩ := hB_26
          rw [ht_26] at hP1_26
          have hK1_26 := va_K.moved hvm_26.symm hK1_26
          obtain ⟨hP_26, hD_26⟩ := va_join (wr := [(h0, .inr (14, [.ref h1, .ref h2, .ref h3, .ref h4, .int 0, .ref h5, .ref h6, .ref h7, .ref h8, .ref h9, .ref h10, .ref h11, .ref h12, .int (-1), .int 0, .int 0, .int (-1), .int (-1)])), (h1, .inr (10, [.ref h13, .int 3, .int 0, .int 0])), (h13, .inl (k0, 200, .inl (upd (upd (upd (fun _ => 0) 0 (((w0.toUInt64 >>> ((24 : Int32).toInt64.toUInt64 &&& Int64.toUInt64 63)).toInt64).toInt32 &&& 255)) 1 (((w0.toUInt64 >>> ((16 : Int32).toInt64.toUInt64 &&& Int64.toUInt64 63)).toInt64).toInt32 &&& 255)) 2 (((w0.toUInt64 >>> ((8 : Int32).toInt64.toUInt64 &&& Int64.toUInt64 63)).toInt64).toInt32 &&& 255))))]) (w1 := []) hP_24 hD_24 [] [0, 1, 2] rfl rfl (by decide) (by decide) hk_26 hFc_26 hP1_26 hD1_26
          have hK_26 := (hK_24.sub (tys' := [(k0, .int)]) [0] rfl).app hK1_26
          have hK_26 : va_K (dC, dI) vwCl [(k0, .int)] s := hK_26
          have hP_26 : va_P (dC, dI) vwCl [(h0, .inr (14, [.ref h1, .ref h2, .ref h3, .ref h4, .int 0, .ref h5, .ref h6, .ref h7, .ref h8, .ref h9, .ref h10, .ref h11, .ref h12, .int (-1), .int 0, .int 0, .int (-1), .int (-1)])), (h1, .inr (10, [.ref h13, .int 3, .int 0, .int 0])), (h13, .inl (k0, 200, .inl (upd (upd (upd (fun _ => 0) 0 (((w0.toUInt64 >>> ((24 : Int32).toInt64.toUInt64 &&& Int64.toUInt64 63)).toInt64).toInt32 &&& 255)) 1 (((w0.toUInt64 >>> ((16 : Int32).toInt64.toUInt64 &&& Int64.toUInt64 63)).toInt64).toInt32 &&& 255)) 2 (((w0.toUInt64 >>> ((8 : Int32).toInt64.toUInt64 &&& Int64.toUInt64 63)).toInt64).toInt32 &&& 255))))] H_26 := hP_26
          have hD_26 : va_D A [(h0, .inr (14, [.ref h1, .ref h2, .ref h3, .ref h4, .int 0, .ref h5, .ref h6, .ref h7, .ref h8, .ref h9, .ref h10, .ref h11, .ref h12, .int (-1), .int 0, .int 0, .int (-1), .int (-1)])), (h1, .inr (10, [.ref h13, .int 3, .int 0, .int 0])), (h13, .inl (k0, 200, .inl (upd (upd (upd (fun _ => 0) 0 (((w0.toUInt64 >>> ((24 : Int32).toInt64.toUInt64 &&& Int64.toUInt64 63)).toInt64).toInt32 &&& 255)) 1 (((w0.toUInt64 >>> ((16 : Int32).toInt64.toUInt64 &&& Int64.toUInt64 63)).toInt64).toInt32 &&& 255)) 2 (((w0.toUInt64 >>> ((8 : Int32).toInt64.toUInt64 &&& Int64.toUInt64 63)).toInt64).toInt32 &&& 255))))] := hD_26
          clear hP_24 hD_24 hS_24 hK_24 hPc_26 hDc_26 hKc_26 hFc_26 hP1_26 hK1_26 hD1_26 hk_26 hz_26
          have hPc_27 := hP_26.sub (ws' := [(h1, .inr (10, [.ref h13, .int 3, .int 0, .int 0])), (h13, .inl (k0, 200, .inl (upd (upd (upd (fun _ => 0) 0 (((w0.toUInt64 >>> ((24 : Int32).toInt64.toUInt64 &&& Int64.toUInt64 63)).toInt64).toInt32 &&& 255)) 1 (((w0.toUInt64 >>> ((16 : Int32).toInt64.toUInt64 &&& Int64.toUInt64 63)).toInt64).toInt32 &&& 255)) 2 (((w0.toUInt64 >>> ((8 : Int32).toInt64.toUInt64 &&& Int64.toUInt64 63)).toInt64).toInt32 &&& 255))))]) [1, 2] rfl
          have hDc_27 := hD_26.sub (ws' := [(h1, .inr (10, [.ref h13, .int 3, .int 0, .int 0])), (h13, .inl (k0, 200, .inl (upd (upd (upd (fun _ => 0) 0 (((w0.toUInt64 >>> ((24 : Int32).toInt64.toUInt64 &&& Int64.toUInt64 63)).toInt64).toInt32 &&& 255)) 1 (((w0.toUInt64 >>> ((16 : Int32).toInt64.toUInt64 &&& Int64.toUInt64 63)).toInt64).toInt32 &&& 255)) 2 (((w0.toUInt64 >>> ((8 : Int32).toInt64.toUInt64 &&& Int64.toUInt64 63)).toInt64).toInt32 &&& 255))))]) [1, 2] (by decide) rfl
          have hKc_27 := hK_26.sub (tys' := [(k0, .int)]) [0] rfl
          have hFc_27 := va_free (wc := [(h1, .inr (10, [.ref h13, .int 3, .int 0, .int 0])), (h13, .inl (k0, 200, .inl (upd (upd (upd (fun _ => 0) 0 (((w0.toUInt64 >>> ((24 : Int32).toInt64.toUInt64 &&& Int64.toUInt64 63)).toInt64).toInt32 &&& 255)) 1 (((w0.toUInt64 >>> ((16 : Int32).toInt64.toUInt64 &&& Int64.toUInt64 63)).toInt64).toInt32 &&& 255)) 2 (((w0.toUInt64 >>> ((8 : Int32).toInt64.toUInt64 &&& Int64.toUInt64 63)).toInt64).toInt32 &&& 255))))]) hD_26 hS_26 hA [1, 2] rfl
          refine va_callv (va_runV (As := [.int (((w0.toUInt64 >>> ((0 : Int32).toInt64.toUInt64 &&& Int64.toUInt64 63)).toInt64).toInt32 &&& 255)]) (rest := []) ⟨hx, hb, hml, hown, ht⟩ (mt_X7_add_v4 l dC dI h1 h13 k0 (((w0.toUInt64 >>> ((0 : Int32).toInt64.toUInt64 &&& Int64.toUInt64 63)).toInt64).toInt32 &&& 255) (((w0.toUInt64 >>> ((24 : Int32).toInt64.toUInt64 &&& Int64.toUInt64 63)).toInt64).toInt32 &&& 255) (((w0.toUInt64 >>> ((16 : Int32).toInt64.toUInt64 &&& Int64.toUInt64 63)).toInt64).toInt32 &&& 255) (((w0.toUInt64 >>> ((8 : Int32).toInt64.toUInt64 &&& Int64.toUInt64 63)).toInt64).toInt32 &&& 255) H_26.size) (cwV 1 ht (goodV tw_865 tw_866 tw_867 tw_237 gw_X7_add) rfl rfl rfl (by decide +kernel) ⟨Nat.le_of_ble_eq_true rfl, Nat.le_of_ble_eq_true rfl⟩) ⟨fun a U g mk q => by obtain ⟨q0, q1, qP, qK, qD⟩ := q; exact ⟨q0, q1, qP, va_K.moved (u := U) (U := U.calling g mk a) (Vm.Alike.refl U.vm) qK, qD⟩, va_recv hKc_27 hPc_27 (ci := 10) (q0 := 0) rfl rfl, fun U hU hW => ⟨rfl, by rw [hU], by rw [hU]; exact hPc_27, va_K.moved hW.alike hKc_27, hDc_27.weaken (fun _ _ _ _ => trivial)⟩⟩ rfl rfl hl_25.1 rfl (lv_room (Nat.le_of_ble_eq_true rfl)) dX11_feed_82 ⟨Nat.le_of_ble_eq_true rfl, Nat.le_of_ble_eq_true rfl⟩) hS_26 (fun q _ h => hFc_27 q h) hFc_27 (fun u_27 t_27 H_27 locs_27 ht_27 hvm_27 hw_27 hB_27 hz_27 hk_27 hS_27 => ?_)
          obtain rfl := hw_27
          obtain ⟨hP1_27, hK1_27, hD1_27⟩ := hB_27
          rw [ht_27] at hP1_27
          have hK1_27 := va_K.moved hvm_27.symm hK1_27
          obtain ⟨hP_27, hD_27⟩ := va_join (wr := [(h0, .inr (14, [.ref h1, .ref h2, .ref h3, .ref h4, .int 0, .ref h5, .ref h6, .ref h7, .ref h8, .ref h9, .ref h10, .ref h11, .ref h12, .int (-1), .int 0, .int 0, .int (-1), .int (-1)]))]) (w1 := [(h1, .inr (10, [.ref h13, .int 4, .int 0, .int 0])), (h13, .inl (k0, 200, .inl (upd (upd (upd (upd (fun _ => 0) 0 (((w0.toUInt64 >>> ((24 : Int32).toInt64.toUInt64 &&& Int64.toUInt64 63)).toInt64).toInt32 &&& 255)) 1 (((w0.toUInt64 >>> ((16 : Int32).toInt64.toUInt64 &&& Int64.toUInt64 63)).toInt64).toInt32 &&& 255)) 2 (((w0.toUInt64 >>> ((8 : Int32).toInt64.toUInt64 &&& Int64.toUInt64 63)).toInt64).toInt32 &&& 255)) 3 (((w0.toUInt64 >>> ((0 : Int32).toInt64.toUInt64 &&& Int64.toUInt64 63)).toInt64).toInt32 &&& 255))))]) hP_26 hD_26 [1, 2] [0] rfl rfl (by decide) (by decide) hk_27 hFc_27 hP1_27 hD1_27
          have hK_27 := (hK_26.sub (tys' := []) [] rfl).app hK1_27
          have hK_27 : va_K (dC, dI) vwCl [(k0, .int)] s := hK_27
          have hP_27 : va_P (dC, dI) vwCl [(h0, .inr (14, [.ref h1, .ref h2, .ref h3, .ref h4, .int 0, .ref h5, .ref h6, .ref h7, .ref h8, .ref h9, .ref h10, .ref h11, .ref h12, .int (-1), .int 0, .int 0, .int (-1), .int (-1)])), (h1, .inr (10, [.ref h13, .int 4, .int 0, .int 0])), (h13, .inl (k0, 200, .inl (upd (upd (upd (upd (fun _ => 0) 0 (((w0.toUInt64 >>> ((24 : Int32).toInt64.toUInt64 &&& Int64.toUInt64 63)).toInt64).toInt32 &&& 255)) 1 (((w0.toUInt64 >>> ((16 : Int32).toInt64.toUInt64 &&& Int64.toUInt64 63)).toInt64).toInt32 &&& 255)) 2 (((w0.toUInt64 >>> ((8 : Int32).toInt64.toUInt64 &&& Int64.toUInt64 63)).toInt64).toInt32 &&& 255)) 3 (((w0.toUInt64 >>> ((0 : Int32).toInt64.toUInt64 &&& Int64.toUInt64 63)).toInt64).toInt32 &&& 255))))] H_27 := hP_27
          have hD_27 : va_D A [(h0, .inr (14, [.ref h1, .ref h2, .ref h3, .ref h4, .int 0, .ref h5, .ref h6, .ref h7, .ref h8, .ref h9, .ref h10, .ref h11, .ref h12, .int (-1), .int 0, .int 0, .int (-1), .int (-1)])), (h1, .inr (10, [.ref h13, .int 4, .int 0, .int 0])), (h13, .inl (k0, 200, .inl (upd (upd (upd (upd (fun _ => 0) 0 (((w0.toUInt64 >>> ((24 : Int32).toInt64.toUInt64 &&& Int64.toUInt64 63)).toInt64).toInt32 &&& 255)) 1 (((w0.toUInt64 >>> ((16 : Int32).toInt64.toUInt64 &&& Int64.toUInt64 63)).toInt64).toInt32 &&& 255)) 2 (((w0.toUInt64 >>> ((8 : Int32).toInt64.toUInt64 &&& Int64.toUInt64 63)).toInt64).toInt32 &&& 255)) 3 (((w0.toUInt64 >>> ((0 : Int32).toInt64.toUInt64 &&& Int64.toUInt64 63)).toInt64).toInt32 &&& 255))))] := hD_27
          clear hP_26 hD_26 hS_26 hK_26 hPc_27 hDc_27 hKc_27 hFc_27 hP1_27 hK1_27 hD1_27 hk_27 hz_27
          refine lv_iinc (v := (-1)) (lv' := [(4, .int (-1)), (0, .ref h0), (1, .int 4), (2, .long w0)]) hx hb dX11_feed_85 hl_25 (k := 0) rfl (by decide) (by decide) rfl (fun ls_28 hl_28 => ?_)
          clear hl_25
          refine lv_goto (tgt := 67) hx hb dX11_feed_88 (by decide) ?_
          refine lv_iload hx hb dX11_feed_67 (lv_at hl_28 0 rfl) ?_
          refine lv_if_lt (tgt := 91) hx hb dX11_feed_69 (by decide) (fun _ => ?_) (fun c_ => absurd (by decide) c_)
          refine lv_aload_n hx hb dX11_feed_91 rfl (lv_at hl_28 1 rfl) ?_
          refine va_get (D := (dC, dI)) (ci := 14) (v := .ref h1) (C := RX11) (T := TX11) (N := 18) hx hb ht inX11 hown hK_27 hP_27 0 rfl rfl 0 (by decide) (ht _ tw_800) (fun _ h9 => h9) rfl dX11_feed_92 ?_
          refine va_get (D := (dC, dI)) (ci := 10) (v := .int 4) (C := RX7) (T := TX7) (N := 4) hx hb ht inX7 hown hK_27 hP_27 1 rfl rfl 1 (by decide) (ht _ tw_278) (fun _ h9 => h9) rfl dX11_feed_95 ?_
          have hP9 := hP_27.sub (ws' := []) [] rfl
          have hD9 := hD_27.sub (ws' := []) [] (by decide) rfl
          have hK9 := hK_27.sub (tys' := []) [] rfl
          refine W.widen (k := 0) (n := 0) (by decide) (by decide) ?_
          exact W.iret (v := 4) hx hb hr (fun t9 ht9 hW9 => ⟨⟨4, 1, rfl, (Or.inr ⟨rfl, rfl, ⟨cc_3_0, cc_3_1, cc_6_0, cc_6_1, cc_9_0, cc_9_1, cc_12_0, cc_12_1⟩⟩), ⟨by rw [ht9]; exact hP9, va_K.moved hW9.alike hK9, hD9⟩⟩, hS_27.F ht9⟩) hS_27.2.2 dX11_feed_98
set_option maxHeartbeats 4000000 in
set_option maxRecDepth 100000 in
theorem mt_X12_in_v10 (l : Launch) (dC : Nat → ClassId) (dI : Nat → Nat → Nat) (sz : Nat) : Met l yX12_in (WS yX12_in cX12_in 3 (some (.boolean))) ({ frames := 0, cells := 0, slots := 0, locals := 0 }) (va_Pc [.int 4, .int 1, .int 8] (fun U => U.heap.size = sz ∧ va_P (dC, dI) vwCl [] U.heap ∧ va_K (dC, dI) vwCl [] U ∧ va_D (fun _ => True) [])) (va_Qi (fun (r : Int32) (u : Nat) => (u = 0 ∧ r = 1)) (fun (_ : Nat) (t : State) => (va_P (dC, dI) vwCl [] t.heap ∧ va_K (dC, dI) vwCl [] t ∧ va_D (va_A [] sz) [])) (va_A [] sz)) 0 0 (va_A [] sz) := by
  refine Met.ofW (cc := cX12_in) (maxL := 3) (ret := (some (.boolean))) (by decide) rfl ?_
  intro p e s m args below meth c s₁ B hml hv
  obtain ⟨rfl, hsz, hP, hK, hD0⟩ := hv
  have hx := B.exec
  have hb := B.bytes
  have hr := B.returns
  have hts := atoms_spec (ws := WS yX12_in cX12_in 3 (some (.boolean))) B.pre
  have ht : ∀ w ∈ TW, w.before _ s = true := fun w h => hts w (List.mem_cons_of_mem _ h)
  have hown : s.vm.findClass "PatternWorkshopModel" = some m.cls := findClass_of_methodNamed B.named
  have hlocks := B.notSynchronized
  subst hsz
  have hD := hD0.self (sz := s.heap.size)
  generalize hAe : va_A [] s.heap.size = A at hD ⊢
  have hA : ∀ q : Nat, s.heap.size ≤ q → A q := fun q h => by rw [← hAe]; exact Or.inr h
  have hS : va_S A s.heap s.heap [] := va_S.rf
  have hP : va_P (dC, dI) vwCl [] s.heap := hP
  have hl := lv_entry ([.int 4, .int 1, .int 8]) (n := 3) (Nat.le_of_ble_eq_true rfl)
  rw [lg_entry_eq]
  generalize (lg_sl ([.int 4, .int 1, .int 8]) ++ List.replicate (3 - (lg_sl ([.int 4, .int 1, .int 8])).length) Slot.unset).toArray = ls at hl ⊢
  have hl : lv_has ls 3 [(0, .int 4), (1, .int 1), (2, .int 8)] := hl
  clear hD0
  refine lv_iload_n hx hb dX12_in_0 rfl (lv_at hl 0 rfl) ?_
  refine lv_iload_n hx hb dX12_in_1 rfl (lv_at hl 1 rfl) ?_
  refine lv_icmp_lt (tgt := 14) hx hb dX12_in_2 (by decide) (fun c_ => absurd c_ (by decide)) (fun _ => ?_)
  refine lv_iload_n hx hb dX12_in_5 rfl (lv_at hl 0 rfl) ?_
  refine lv_iload_n hx hb dX12_in_6 rfl (lv_at hl 2 rfl) ?_
  refine lv_icmp_gt (tgt := 14) hx hb dX12_in_7 (by decide) (fun c_ => absurd c_ (by decide)) (fun _ => ?_)
  refine lv_iconst (v := 1) hx hb dX12_in_10 (by decide) ?_
  refine lv_goto (tgt := 15) hx hb dX12_in_11 (by decide) ?_
  have hP9 := hP.sub (ws' := []) [] rfl
  have hD9 := hD.sub (ws' := []) [] (by decide) rfl
  have hK9 := hK.sub (tys' := []) [] rfl
  refine W.widen (k := 0) (n := 0) (by decide) (by decide) ?_
  exact W.zret (v := 1) hx hb hr rfl (fun t9 ht9 hW9 => ⟨⟨1, 0, rfl, ⟨rfl, rfl⟩, ⟨by rw [ht9]; exact hP9, va_K.moved hW9.alike hK9, hD9⟩⟩, hS.F ht9⟩) hS.2.2 dX12_in_15
def GM4 (w0 : Int64) : Prop := (¬ (((w0 >>> ((0 : Int32).toInt64 &&& 63)) &&& 255).toInt32) < 32) ∧ (¬ 126 < (((w0 >>> ((0 : Int32).toInt64 &&& 63)) &&& 255).toInt32)) ∧ (¬ (((w0 >>> ((8 : Int32).toInt64 &&& 63)) &&& 255).toInt32) < 32) ∧ (¬ 126 < (((w0 >>> ((8 : Int32).toInt64 &&& 63)) &&& 255).toInt32)) ∧ (¬ (((w0 >>> ((16 : Int32).toInt64 &&& 63)) &&& 255).toInt32) < 32) ∧ (¬ 126 < (((w0 >>> ((16 : Int32).toInt64 &&& 63)) &&& 255).toInt32)) ∧ (¬ (((w0 >>> ((24 : Int32).toInt64 &&& 63)) &&& 255).toInt32) < 32) ∧ (¬ 126 < (((w0 >>> ((24 : Int32).toInt64 &&& 63)) &&& 255).toInt32))
