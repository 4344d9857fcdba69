def w_X11_feed_11 (Q : Int32 → Int32 → Bool → (Nat → Int32) → Prop) (v_tape_count_11 : Int32) (v_tape_over_11 : Bool) (v_tape_items_11 : Nat → Int32) : Prop :=
  Q (-4) v_tape_count_11 v_tape_over_11 v_tape_items_11
def w_X11_feed_67B (p2 : Int64) (nv_tape_items : Nat) (Q : Int32 → Int32 → Bool → (Nat → Int32) → Prop) (K67 : Int32 → Int32 → Bool → (Nat → Int32) → Prop) (l4_67 : Int32) (v_tape_count_67 : Int32) (v_tape_over_67 : Bool) (v_tape_items_67 : Nat → Int32) : Prop :=
  ((l4_67 < 0) → Q v_tape_count_67 v_tape_count_67 v_tape_over_67 v_tape_items_67) ∧ ((¬ l4_67 < 0) → w_X11_byteOf p2 l4_67 (fun r_10 => w_X7_add r_10 v_tape_count_67 v_tape_over_67 v_tape_items_67 nv_tape_items (fun r_11_0 r_11_1 r_11_2 => ∀ x_12 : Int32, x_12 = l4_67 + (-1) → K67 x_12 r_11_0 r_11_1 r_11_2)))
def w_X11_feed_67 (p2 : Int64) (nv_tape_items : Nat) (Q : Int32 → Int32 → Bool → (Nat → Int32) → Prop) : Nat → Int32 → Int32 → Bool → (Nat → Int32) → Prop
  | 0, _, _, _, _ => False
  | n9 + 1, l4_67, v_tape_count_67, v_tape_over_67, v_tape_items_67 => w_X11_feed_67B p2 nv_tape_items Q (w_X11_feed_67 p2 nv_tape_items Q n9) l4_67 v_tape_count_67 v_tape_over_67 v_tape_items_67
def w_X11_feed_17B (p1 : Int32) (p2 : Int64) (nv_tape_items : Nat) (Q : Int32 → Int32 → Bool → (Nat → Int32) → Prop) (K17 : Int32 → Prop) (v_tape_count_17 : Int32) (v_tape_over_17 : Bool) (v_tape_items_17 : Nat → Int32) (l4_17 : Int32) : Prop :=
  ((p1 ≤ l4_17) → ∀ x_5 : Int32, x_5 = v_tape_count_17 + p1 → ((x_5 ≤ 200) → ∀ x_7 : Int32, x_7 = p1 - (1 : Int32) → ∃ k9 : Nat, w_X11_feed_67 p2 nv_tape_items Q k9 x_7 v_tape_count_17 v_tape_over_17 v_tape_items_17) ∧ ((¬ x_5 ≤ 200) → Q (-9) v_tape_count_17 v_tape_over_17 v_tape_items_17)) ∧ ((¬ p1 ≤ l4_17) → w_X11_byteOf p2 l4_17 (fun r_14 => w_X11_isTapeSign r_14 (fun r_15 => ((¬ r_15 = 0) → ∀ x_17 : Int32, x_17 = l4_17 + 1 → K17 x_17) ∧ ((r_15 = 0) → Q (-4) v_tape_count_17 v_tape_over_17 v_tape_items_17))))
def w_X11_feed_17 (p1 : Int32) (p2 : Int64) (nv_tape_items : Nat) (Q : Int32 → Int32 → Bool → (Nat → Int32) → Prop) (v_tape_count_17 : Int32) (v_tape_over_17 : Bool) (v_tape_items_17 : Nat → Int32) : Nat → Int32 → Prop
  | 0, _ => False
  | n9 + 1, l4_17 => w_X11_feed_17B p1 p2 nv_tape_items Q (w_X11_feed_17 p1 p2 nv_tape_items Q v_tape_count_17 v_tape_over_17 v_tape_items_17 n9) v_tape_count_17 v_tape_over_17 v_tape_items_17 l4_17
def w_X11_feed (p1 : Int32) (p2 : Int64) (v_tape_count : Int32) (v_tape_over : Bool) (v_tape_items : Nat → Int32) (nv_tape_items : Nat) (Q : Int32 → Int32 → Bool → (Nat → Int32) → Prop) : Prop :=
  ((p1 < 1) → w_X11_feed_11 Q v_tape_count v_tape_over v_tape_items) ∧ ((¬ p1 < 1) → ((p1 ≤ 8) → ∃ k9 : Nat, w_X11_feed_17 p1 p2 nv_tape_items Q v_tape_count v_tape_over v_tape_items k9 0) ∧ ((¬ p1 ≤ 8) → w_X11_feed_11 Q v_tape_count v_tape_over v_tape_items))
set_option maxHeartbeats 4000000 in
set_option maxRecDepth 100000 in
theorem mt_X11_feed (l : Launch) (dC : Nat → ClassId) (dI : Nat → Nat → Nat) (h0 h1 h2 h3 h4 h5 h6 h7 h8 h9 h10 h11 h12 h13 : Nat) (k0 : ClassId) (p1 : Int32) (p2 : Int64) (v_outHasNumbers : Bool) (v_faultPlace : Int32) (v_latestFinding : Int32) (v_latestSteps : Int32) (v_openSlot : Int32) (v_openSubject : Int32) (v_tape_count : Int32) (v_tape_over : Bool) (v_tape_there : Bool) (v_tape_items : Nat → Int32) (nv_tape_items : Nat) (Q : Int32 → Int32 → Bool → (Nat → Int32) → Prop) (w : w_X11_feed p1 p2 v_tape_count v_tape_over v_tape_items nv_tape_items Q) (sz : Nat) : Met l yX11_feed (WS yX11_feed cX11_feed 5 (some (.int))) ({ frames := 1, cells := 0, slots := 0, locals := 22 } : Room) (va_Pc [.ref h0, .int p1, .long p2] (fun U => U.heap.size = sz ∧ va_P (dC, dI) vwCl [(h0, .inr (14, oX11 (.ref h1) (.ref h3) (.ref h4) (.ref h5) v_outHasNumbers (.ref h6) (.ref h7) (.ref h8) (.ref h9) (.ref h10) (.ref h11) (.ref h12) (.ref h13) v_faultPlace v_latestFinding v_latestSteps v_openSlot v_openSubject)), (h1, .inr (10, oX7 (.ref h2) v_tape_count v_tape_over v_tape_there)), (h2, .inl (k0, nv_tape_items, .inl v_tape_items))] U.heap ∧ va_K (dC, dI) vwCl [(k0, .int)] U ∧ va_D (fun _ => True) [(h0, .inr (14, oX11 (.ref h1) (.ref h3) (.ref h4) (.ref h5) v_outHasNumbers (.ref h6) (.ref h7) (.ref h8) (.ref h9) (.ref h10) (.ref h11) (.ref h12) (.ref h13) v_faultPlace v_latestFinding v_latestSteps v_openSlot v_openSubject)), (h1, .inr (10, oX7 (.ref h2) v_tape_count v_tape_over v_tape_there)), (h2, .inl (k0, nv_tape_items, .inl v_tape_items))])) (va_Qi (fun (r u : Int32) => r = u) (fun (u : Int32) (t : State) => ∃ (ov_tape_count : Int32), ∃ (ov_tape_over : Bool), ∃ (ov_tape_items : Nat → Int32), (Q u ov_tape_count ov_tape_over ov_tape_items) ∧ va_P (dC, dI) vwCl [(h0, .inr (14, oX11 (.ref h1) (.ref h3) (.ref h4) (.ref h5) v_outHasNumbers (.ref h6) (.ref h7) (.ref h8) (.ref h9) (.ref h10) (.ref h11) (.ref h12) (.ref h13) v_faultPlace v_latestFinding v_latestSteps v_openSlot v_openSubject)), (h1, .inr (10, oX7 (.ref h2) ov_tape_count ov_tape_over v_tape_there)), (h2, .inl (k0, nv_tape_items, .inl ov_tape_items))] t.heap ∧ va_D (va_A [(h0, .inr (14, oX11 (.ref h1) (.ref h3) (.ref h4) (.ref h5) v_outHasNumbers (.ref h6) (.ref h7) (.ref h8) (.ref h9) (.ref h10) (.ref h11) (.ref h12) (.ref h13) v_faultPlace v_latestFinding v_latestSteps v_openSlot v_openSubject)), (h1, .inr (10, oX7 (.ref h2) v_tape_count v_tape_over v_tape_there)), (h2, .inl (k0, nv_tape_items, .inl v_tape_items))] sz) [(h0, .inr (14, oX11 (.ref h1) (.ref h3) (.ref h4) (.ref h5) v_outHasNumbers (.ref h6) (.ref h7) (.ref h8) (.ref h9) (.ref h10) (.ref h11) (.ref h12) (.ref h13) v_faultPlace v_latestFinding v_latestSteps v_openSlot v_openSubject)), (h1, .inr (10, oX7 (.ref h2) ov_tape_count ov_tape_over v_tape_there)), (h2, .inl (k0, nv_tape_items, .inl ov_tape_items))]) (va_A [(h0, .inr (14, oX11 (.ref h1) (.ref h3) (.ref h4) (.ref h5) v_outHasNumbers (.ref h6) (.ref h7) (.ref h8) (.ref h9) (.ref h10) (.ref h11) (.ref h12) (.ref h13) v_faultPlace v_latestFinding v_latestSteps v_openSlot v_openSubject)), (h1, .inr (10, oX7 (.ref h2) v_tape_count v_tape_over v_tape_there)), (h2, .inl (k0, nv_tape_items, .inl v_tape_items))] sz)) 0 0 (va_A [(h0, .inr (14, oX11 (.ref h1) (.ref h3) (.ref h4) (.ref h5) v_outHasNumbers (.ref h6) (.ref h7) (.ref h8) (.ref h9) (.ref h10) (.ref h11) (.ref h12) (.ref h13) v_faultPlace v_latestFinding v_latestSteps v_openSlot v_openSubject)), (h1, .inr (10, oX7 (.ref h2) v_tape_count v_tape_over v_tape_there)), (h2, .inl (k0, nv_tape_items, .inl v_tape_items))] sz) := by
  refine Met.ofW (cc := cX11_feed) (maxL := 5) (ret := (some (.int))) (by decide) rfl ?_
  intro p e s m args below meth c s₁ B hml hv
  obtain ⟨rfl, hsz, hP, hK, hD0⟩ := hv
  have hx := B.exec
  have hb := B.bytes
  have hr := B.returns
  have hts := atoms_spec (ws := WS yX11_feed cX11_feed 5 (some (.int))) B.pre
  have ht : ∀ w ∈ TW, w.before _ s = true := fun w h => hts w (List.mem_cons_of_mem _ h)
  have hown : s.vm.findClass "PatternWorkshop" = some m.cls := findClass_of_methodNamed B.named
  have hlocks := B.notSynchronized
  subst hsz
  have hD := hD0.self (sz := s.heap.size)
  generalize hAe : va_A [(h0, .inr (14, oX11 (.ref h1) (.ref h3) (.ref h4) (.ref h5) v_outHasNumbers (.ref h6) (.ref h7) (.ref h8) (.ref h9) (.ref h10) (.ref h11) (.ref h12) (.ref h13) v_faultPlace v_latestFinding v_latestSteps v_openSlot v_openSubject)), (h1, .inr (10, oX7 (.ref h2) v_tape_count v_tape_over v_tape_there)), (h2, .inl (k0, nv_tape_items, .inl v_tape_items))] s.heap.size = A at hD ⊢
  have hA : ∀ q : Nat, s.heap.size ≤ q → A q := fun q h => by rw [← hAe]; exact Or.inr h
  have hS : va_S A s.heap s.heap [] := va_S.rf
  have hP : va_P (dC, dI) vwCl [(h0, .inr (14, oX11 (.ref h1) (.ref h3) (.ref h4) (.ref h5) v_outHasNumbers (.ref h6) (.ref h7) (.ref h8) (.ref h9) (.ref h10) (.ref h11) (.ref h12) (.ref h13) v_faultPlace v_latestFinding v_latestSteps v_openSlot v_openSubject)), (h1, .inr (10, oX7 (.ref h2) v_tape_count v_tape_over v_tape_there)), (h2, .inl (k0, nv_tape_items, .inl v_tape_items))] s.heap := hP
  have hl := lv_entry ([.ref h0, .int p1, .long p2]) (n := 5) (Nat.le_of_ble_eq_true rfl)
  rw [lg_entry_eq]
  generalize (lg_sl ([.ref h0, .int p1, .long p2]) ++ List.replicate (5 - (lg_sl ([.ref h0, .int p1, .long p2])).length) Slot.unset).toArray = ls at hl ⊢
  have hl : lv_has ls 5 [(0, .ref h0), (1, .int p1), (2, .long p2)] := hl
  clear hD0
  obtain ⟨QQ, hQQ⟩ : ∃ QQ, QQ = MQ below (va_Qi (fun (r u : Int32) => r = u) (fun (u : Int32) (t : State) => ∃ (ov_tape_count : Int32), ∃ (ov_tape_over : Bool), ∃ (ov_tape_items : Nat → Int32), (Q u ov_tape_count ov_tape_over ov_tape_items) ∧ va_P (dC, dI) vwCl [(h0, .inr (14, oX11 (.ref h1) (.ref h3) (.ref h4) (.ref h5) v_outHasNumbers (.ref h6) (.ref h7) (.ref h8) (.ref h9) (.ref h10) (.ref h11) (.ref h12) (.ref h13) v_faultPlace v_latestFinding v_latestSteps v_openSlot v_openSubject)), (h1, .inr (10, oX7 (.ref h2) ov_tape_count ov_tape_over v_tape_there)), (h2, .inl (k0, nv_tape_items, .inl ov_tape_items))] t.heap ∧ va_D A [(h0, .inr (14, oX11 (.ref h1) (.ref h3) (.ref h4) (.ref h5) v_outHasNumbers (.ref h6) (.ref h7) (.ref h8) (.ref h9) (.ref h10) (.ref h11) (.ref h12) (.ref h13) v_faultPlace v_latestFinding v_latestSteps v_openSlot v_openSubject)), (h1, .inr (10, oX7 (.ref h2) ov_tape_count ov_tape_over v_tape_there)), (h2, .inl (k0, nv_tape_items, .inl ov_tape_items))]) A) ([.ref h0, .int p1, .long p2]).toArray s 0 0 A := ⟨_, rfl⟩
  show W p l e ({ frames := 1, cells := 0, slots := 0, locals := 22 } : Room) s m ([.ref h0, .int p1, .long p2]).toArray below meth c s.heap [] 0 0 (MQ below (va_Qi (fun (r u : Int32) => r = u) (fun (u : Int32) (t : State) => ∃ (ov_tape_count : Int32), ∃ (ov_tape_over : Bool), ∃ (ov_tape_items : Nat → Int32), (Q u ov_tape_count ov_tape_over ov_tape_items) ∧ va_P (dC, dI) vwCl [(h0, .inr (14, oX11 (.ref h1) (.ref h3) (.ref h4) (.ref h5) v_outHasNumbers (.ref h6) (.ref h7) (.ref h8) (.ref h9) (.ref h10) (.ref h11) (.ref h12) (.ref h13) v_faultPlace v_latestFinding v_latestSteps v_openSlot v_openSubject)), (h1, .inr (10, oX7 (.ref h2) ov_tape_count ov_tape_over v_tape_there)), (h2, .inl (k0, nv_tape_items, .inl ov_tape_items))] t.heap ∧ va_D A [(h0, .inr (14, oX11 (.ref h1) (.ref h3) (.ref h4) (.ref h5) v_outHasNumbers (.ref h6) (.ref h7) (.ref h8) (.ref h9) (.ref h10) (.ref h11) (.ref h12) (.ref h13) v_faultPlace v_latestFinding v_latestSteps v_openSlot v_openSubject)), (h1, .inr (10, oX7 (.ref h2) ov_tape_count ov_tape_over v_tape_there)), (h2, .inl (k0, nv_tape_items, .inl ov_tape_items))]) A) ([.ref h0, .int p1, .long p2]).toArray s 0 0 A) (F0 m 0 ls [])
  rw [← hQQ]
  unfold w_X11_feed at w
  refine lv_iload_n hx hb dX11_feed_0 rfl (lv_at hl 1 rfl) ?_
  refine lv_iconst (v := 1) hx hb dX11_feed_1 (by decide) ?_
  have k_11 : ∀ (v_tape_count_11 : Int32) (v_tape_over_11 : Bool) (v_tape_items_11 : Nat → Int32), ∀ (H_b11 : Heap) (locs_b11 : List Loc) (ls_b11 : Array Slot), w_X11_feed_11 Q v_tape_count_11 v_tape_over_11 v_tape_items_11 → va_P (dC, dI) vwCl [(h0, .inr (14, oX11 (.ref h1) (.ref h3) (.ref h4) (.ref h5) v_outHasNumbers (.ref h6) (.ref h7) (.ref h8) (.ref h9) (.ref h10) (.ref h11) (.ref h12) (.ref h13) v_faultPlace v_latestFinding v_latestSteps v_openSlot v_openSubject)), (h1, .inr (10, oX7 (.ref h2) v_tape_count_11 v_tape_over_11 v_tape_there)), (h2, .inl (k0, nv_tape_items, .inl v_tape_items_11))] H_b11 → va_D A [(h0, .inr (14, oX11 (.ref h1) (.ref h3) (.ref h4) (.ref h5) v_outHasNumbers (.ref h6) (.ref h7) (.ref h8) (.ref h9) (.ref h10) (.ref h11) (.ref h12) (.ref h13) v_faultPlace v_latestFinding v_latestSteps v_openSlot v_openSubject)), (h1, .inr (10, oX7 (.ref h2) v_tape_count_11 v_tape_over_11 v_tape_there)), (h2, .inl (k0, nv_tape_items, .inl v_tape_items_11))] → va_S A s.heap H_b11 locs_b11 → lv_has ls_b11 5 [] → W p l e ({ frames := 1, cells := 0, slots := 0, locals := 22 } : Room) s m ([.ref h0, .int p1, .long p2]).toArray below meth c H_b11 locs_b11 0 0 QQ (F0 m 11 ls_b11 []) := by
    intro v_tape_count_11 v_tape_over_11 v_tape_items_11 H_b11 locs_b11 ls_b11 w_b11 hP_b11 hD_b11 hS_b11 hl_b11
    unfold w_X11_feed_11 at w_b11
    refine lv_bipush (v := (-4)) hx hb dX11_feed_11 (by decide) ?_
    rw [hQQ]
    exact W.iret (v := (-4)) hx hb hr (fun t9 ht9 hW9 => ⟨⟨(-4), (-4), rfl, rfl, ⟨v_tape_count_11, v_tape_over_11, v_tape_items_11, w_b11, by rw [ht9]; exact hP_b11, hD_b11⟩⟩, hS_b11.F ht9⟩) hS_b11.2.2 dX11_feed_13
  refine lv_icmp_lt (tgt := 11) hx hb dX11_feed_2 (by decide) (fun c_1 => ?_) (fun c_1 => ?_)
  · exact k_11 v_tape_count v_tape_over v_tape_items _ _ _ (w.1 c_1) hP hD hS (lv_sub hl [] rfl)
  · refine lv_iload_n hx hb dX11_feed_5 rfl (lv_at hl 1 rfl) ?_
    refine lv_bipush (v := 8) hx hb dX11_feed_6 (by decide) ?_
    refine lv_icmp_le (tgt := 14) hx hb dX11_feed_8 (by decide) (fun c_2 => ?_) (fun c_2 => ?_)
    · refine lv_iconst (v := 0) hx hb dX11_feed_14 (by decide) ?_
      refine lv_istore (lv' := [(4, .int 0), (0, .ref h0), (1, .int p1), (2, .long p2)]) hx hb dX11_feed_15 hl (by decide) rfl (fun ls_3 hl_3 => ?_)
      clear hl
      have k_17 : ∀ (v_tape_count_17 : Int32) (v_tape_over_17 : Bool) (v_tape_items_17 : Nat → Int32), ∀ n_17 : Nat, ∀ (l4_17 : Int32), ∀ (H_b17 : Heap) (locs_b17 : List Loc) (ls_b17 : Array Slot), w_X11_feed_17 p1 p2 nv_tape_items Q v_tape_count_17 v_tape_over_17 v_tape_items_17 n_17 l4_17 → va_P (dC, dI) vwCl [(h0, .inr (14, oX11 (.ref h1) (.ref h3) (.ref h4) (.ref h5) v_outHasNumbers (.ref h6) (.ref h7) (.ref h8) (.ref h9) (.ref h10) (.ref h11) (.ref h12) (.ref h13) v_faultPlace v_latestFinding v_latestSteps v_openSlot v_openSubject)), (h1, .inr (10, oX7 (.ref h2) v_tape_count_17 v_tape_over_17 v_tape_there)), (h2, .inl (k0, nv_tape_items, .inl v_tape_items_17))] H_b17 → va_D A [(h0, .inr (14, oX11 (.ref h1) (.ref h3) (.ref h4) (.ref h5) v_outHasNumbers (.ref h6) (.ref h7) (.ref h8) (.ref h9) (.ref h10) (.ref h11) (.ref h12) (.ref h13) v_faultPlace v_latestFinding v_latestSteps v_openSlot v_openSubject)), (h1, .inr (10, oX7 (.ref h2) v_tape_count_17 v_tape_over_17 v_tape_there)), (h2, .inl (k0, nv_tape_items, .inl v_tape_items_17))] → va_S A s.heap H_b17 locs_b17 → lv_has ls_b17 5 [(0, .ref h0), (1, .int p1), (2, .long p2), (4, .int l4_17)] → W p l e ({ frames := 1, cells := 0, slots := 0, locals := 22 } : Room) s m ([.ref h0, .int p1, .long p2]).toArray below meth c H_b17 locs_b17 0 0 QQ (F0 m 17 ls_b17 []) := by
        intro v_tape_count_17 v_tape_over_17 v_tape_items_17
        intro n_17
        induction n_17 with
        | zero =>
          intro l4_17 H_b17 locs_b17 ls_b17 w_b17 hP_b17 hD_b17 hS_b17 hl_b17
          exact False.elim (by unfold w_X11_feed_17 at w_b17; exact w_b17)
        | succ n_17 ih_17 =>
          intro l4_17 H_b17 locs_b17 ls_b17 w_b17 hP_b17 hD_b17 hS_b17 hl_b17
          unfold w_X11_feed_17 at w_b17
          unfold w_X11_feed_17B at w_b17
          refine lv_iload hx hb dX11_feed_17 (lv_at hl_b17 3 rfl) ?_
          refine lv_iload_n hx hb dX11_feed_19 rfl (lv_at hl_b17 1 rfl) ?_
          refine lv_icmp_ge (tgt := 44) hx hb dX11_feed_20 (by decide) (fun c_4 => ?_) (fun c_4 => ?_)
          · refine lv_aload_n hx hb dX11_feed_44 rfl (lv_at hl_b17 0 rfl) ?_
            refine va_get (D := (dC, dI)) (ci := 14) (v := .ref h1) (C := RX11) (T := TX11) (N := 18) hx hb ht inX11 hown hK hP_b17 0 rfl rfl 0 (by decide) (ht _ tw_800) (fun _ h9 => h9) rfl dX11_feed_45 ?_
            refine va_get (D := (dC, dI)) (ci := 10) (v := .int v_tape_count_17) (C := RX7) (T := TX7) (N := 4) hx hb ht inX7 hown hK hP_b17 1 rfl rfl 1 (by decide) (ht _ tw_278) (fun _ h9 => h9) rfl dX11_feed_48 ?_
            refine lv_iload_n hx hb dX11_feed_51 rfl (lv_at hl_b17 1 rfl) ?_
            refine lv_iadd hx hb dX11_feed_52 ?_
            refine lv_topi (fun x_5 ex_5 => ?_)
            have ex_5 : x_5 = v_tape_count_17 + p1 := ex_5
            refine lv_sipush (v := 200) hx hb dX11_feed_53 (by decide) ?_
            refine lv_icmp_le (tgt := 62) hx hb dX11_feed_56 (by decide) (fun c_6 => ?_) (fun c_6 => ?_)
            · refine lv_iload_n hx hb dX11_feed_62 rfl (lv_at hl_b17 1 rfl) ?_
              refine lv_iconst (v := 1) hx hb dX11_feed_63 (by decide) ?_
              refine lv_isub hx hb dX11_feed_64 ?_
              refine lv_topi (fun x_7 ex_7 => ?_)
              have ex_7 : x_7 = p1 - (1 : Int32) := ex_7
              refine lv_istore (lv' := [(4, .int x_7), (0, .ref h0), (1, .int p1), (2, .long p2)]) hx hb dX11_feed_65 hl_b17 (by decide) rfl (fun ls_8 hl_8 => ?_)
              clear hl_b17
              have k_67 : ∀ n_67 : Nat, ∀ (l4_67 : Int32) (v_tape_count_67 : Int32) (v_tape_over_67 : Bool) (v_tape_items_67 : Nat → Int32), ∀ (H_b67 : Heap) (locs_b67 : List Loc) (ls_b67 : Array Slot), w_X11_feed_67 p2 nv_tape_items Q n_67 l4_67 v_tape_count_67 v_tape_over_67 v_tape_items_67 → va_P (dC, dI) vwCl [(h0, .inr (14, oX11 (.ref h1) (.ref h3) (.ref h4) (.ref h5) v_outHasNumbers (.ref h6) (.ref h7) (.ref h8) (.ref h9) (.ref h10) (.ref h11) (.ref h12) (.ref h13) v_faultPlace v_latestFinding v_latestSteps v_openSlot v_openSubject)), (h1, .inr (10, oX7 (.ref h2) v_tape_count_67 v_tape_over_67 v_tape_there)), (h2, .inl (k0, nv_tape_items, .inl v_tape_items_67))] H_b67 → va_D A [(h0, .inr (14, oX11 (.ref h1) (.ref h3) (.ref h4) (.ref h5) v_outHasNumbers (.ref h6) (.ref h7) (.ref h8) (.ref h9) (.ref h10) (.ref h11) (.ref h12) (.ref h13) v_faultPlace v_latestFinding v_latestSteps v_openSlot v_openSubject)), (h1, .inr (10, oX7 (.ref h2) v_tape_count_67 v_tape_over_67 v_tape_there)), (h2, .inl (k0, nv_tape_items, .inl v_tape_items_67))] → va_S A s.heap H_b67 locs_b67 → lv_has ls_b67 5 [(0, .ref h0), (2, .long p2), (4, .int l4_67)] → W p l e ({ frames := 1, cells := 0, slots := 0, locals := 22 } : Room) s m ([.ref h0, .int p1, .long p2]).toArray below meth c H_b67 locs_b67 0 0 QQ (F0 m 67 ls_b67 []) := by
                intro n_67
                induction n_67 with
                | zero =>
                  intro l4_67 v_tape_count_67 v_tape_over_67 v_tape_items_67 H_b67 locs_b67 ls_b67 w_b67 hP_b67 hD_b67 hS_b67 hl_b67
                  exact False.elim (by unfold w_X11_feed_67 at w_b67; exact w_b67)
                | succ n_67 ih_67 =>
                  intro l4_67 v_tape_count_67 v_tape_over_67 v_tape_items_67 H_b67 locs_b67 ls_b67 w_b67 hP_b67 hD_b67 hS_b67 hl_b67
                  unfold w_X11_feed_67 at w_b67
                  unfold w_X11_feed_67B at w_b67
                  refine lv_iload hx hb dX11_feed_67 (lv_at hl_b67 2 rfl) ?_
                  refine lv_if_lt (tgt := 91) hx hb dX11_feed_69 (by decide) (fun c_9 => ?_) (fun c_9 => ?_)
                  · refine lv_aload_n hx hb dX11_feed_91 rfl (lv_at hl_b67 0 rfl) ?_
                    refine va_get (D := (dC, dI)) (ci := 14) (v := .ref h1) (C := RX11) (T := TX11) (N := 18) hx hb ht inX11 hown hK hP_b67 0 rfl rfl 0 (by decide) (ht _ tw_800) (fun _ h9 => h9) rfl dX11_feed_92 ?_
                    refine va_get (D := (dC, dI)) (ci := 10) (v := .int v_tape_count_67) (C := RX7) (T := TX7) (N := 4) hx hb ht inX7 hown hK hP_b67 1 rfl rfl 1 (by decide) (ht _ tw_278) (fun _ h9 => h9) rfl dX11_feed_95 ?_
                    rw [hQQ]
                    exact W.iret (v := v_tape_count_67) hx hb hr (fun t9 ht9 hW9 => ⟨⟨v_tape_count_67, v_tape_count_67, rfl, rfl, ⟨v_tape_count_67, v_tape_over_67, v_tape_items_67, w_b67.1 c_9, by rw [ht9]; exact hP_b67, hD_b67⟩⟩, hS_b67.F ht9⟩) hS_b67.2.2 dX11_feed_98
                  · refine lv_aload_n hx hb dX11_feed_72 rfl (lv_at hl_b67 0 rfl) ?_
                    refine va_get (D := (dC, dI)) (ci := 14) (v := .ref h1) (C := RX11) (T := TX11) (N := 18) hx hb ht inX11 hown hK hP_b67 0 rfl rfl 0 (by decide) (ht _ tw_800) (fun _ h9 => h9) rfl dX11_feed_73 ?_
                    refine lv_lload_n hx hb dX11_feed_76 rfl (lv_at hl_b67 1 rfl) ?_
                    refine lv_iload hx hb dX11_feed_77 (lv_at hl_b67 2 rfl) ?_
                    have hPc_10 := hP_b67.sub (ws' := []) [] rfl
                    have hDc_10 := hD_b67.sub (ws' := []) [] (by decide) rfl
                    have hKc_10 := hK.sub (tys' := []) [] rfl
                    have hFc_10 := va_free (wc := []) hD_b67 hS_b67 hA [] rfl
                    refine va_calli (va_runS (As := [.long p2, .int l4_67]) (rest := [.ref h1]) ⟨hx, hb, hml, hown, ht⟩ (mt_X11_byteOf l dC dI p2 l4_67 _ (w_b67.2 c_9) H_b67.size) (cwS 2 ht (goodS tw_859 tw_860 tw_236 gw_X11_byteOf) rfl rfl rfl (by decide +kernel) ⟨Nat.le_of_ble_eq_true rfl, Nat.le_of_ble_eq_true rfl⟩) ⟨fun a U g mk q => by obtain ⟨q0, q1, qP, qK, qD⟩ := q; exact ⟨q0, q1, qP, va_K.moved (u := U) (U := U.calling g mk a) (Vm.Alike.refl U.vm) qK, qD⟩, fun U hU hW => ⟨rfl, by rw [hU], by rw [hU]; exact hPc_10, va_K.moved hW.alike hKc_10, hDc_10.weaken (fun _ _ _ _ => trivial)⟩⟩ rfl rfl hl_b67.1 rfl (lv_room (Nat.le_of_ble_eq_true rfl)) dX11_feed_79 ⟨Nat.le_of_ble_eq_true rfl, Nat.le_of_ble_eq_true rfl⟩) hS_b67 (fun q _ h => hFc_10 q h) hFc_10 (fun r_10 u_10 t_10 H_10 locs_10 ht_10 hvm_10 hw_10 hB_10 hz_10 hk_10 hS_10 => ?_)
                    subst hw_10
                    obtain ⟨w_10, hP1_10, hD1_10⟩ := hB_10
                    rw [ht_10] at hP1_10
                    obtain ⟨hP_10, hD_10⟩ := va_join (wr := [(h0, .inr (14, oX11 (.ref h1) (.ref h3) (.ref h4) (.ref h5) v_outHasNumbers (.ref h6) (.ref h7) (.ref h8) (.ref h9) (.ref h10) (.ref h11) (.ref h12) (.ref h13) v_faultPlace v_latestFinding v_latestSteps v_openSlot v_openSubject)), (h1, .inr (10, oX7 (.ref h2) v_tape_count_67 v_tape_over_67 v_tape_there)), (h2, .inl (k0, nv_tape_items, .inl v_tape_items_67))]) (w1 := []) hP_b67 hD_b67 [] [0, 1, 2] rfl rfl (by decide) (by decide) hk_10 hFc_10 hP1_10 hD1_10
                    have hP_10 := hP_10.sub (ws' := [(h0, .inr (14, oX11 (.ref h1) (.ref h3) (.ref h4) (.ref h5) v_outHasNumbers (.ref h6) (.ref h7) (.ref h8) (.ref h9) (.ref h10) (.ref h11) (.ref h12) (.ref h13) v_faultPlace v_latestFinding v_latestSteps v_openSlot v_openSubject)), (h1, .inr (10, oX7 (.ref h2) v_tape_count_67 v_tape_over_67 v_tape_there)), (h2, .inl (k0, nv_tape_items, .inl v_tape_items_67))]) [0, 1, 2] rfl
                    have hD_10 := hD_10.sub (ws' := [(h0, .inr (14, oX11 (.ref h1) (.ref h3) (.ref h4) (.ref h5) v_outHasNumbers (.ref h6) (.ref h7) (.ref h8) (.ref h9) (.ref h10) (.ref h11) (.ref h12) (.ref h13) v_faultPlace v_latestFinding v_latestSteps v_openSlot v_openSubject)), (h1, .inr (10, oX7 (.ref h2) v_tape_count_67 v_tape_over_67 v_tape_there)), (h2, .inl (k0, nv_tape_items, .inl v_tape_items_67))]) [0, 1, 2] (by decide) rfl
                    clear hPc_10 hDc_10 hKc_10 hFc_10 hP1_10 hD1_10 hk_10 hz_10
                    have hPc_11 := hP_10.sub (ws' := [(h1, .inr (10, oX7 (.ref h2) v_tape_count_67 v_tape_over_67 v_tape_there)), (h2, .inl (k0, nv_tape_items, .inl v_tape_items_67))]) [1, 2] rfl
                    have hDc_11 := hD_10.sub (ws' := [(h1, .inr (10, oX7 (.ref h2) v_tape_count_67 v_tape_over_67 v_tape_there)), (h2, .inl (k0, nv_tape_items, .inl v_tape_items_67))]) [1, 2] (by decide) rfl
                    have hKc_11 := hK.sub (tys' := [(k0, .int)]) [0] rfl
                    have hFc_11 := va_free (wc := [(h1, .inr (10, oX7 (.ref h2) v_tape_count_67 v_tape_over_67 v_tape_there)), (h2, .inl (k0, nv_tape_items, .inl v_tape_items_67))]) hD_10 hS_10 hA [1, 2] rfl
                    refine va_callv (va_runV (As := [.int r_10]) (rest := []) ⟨hx, hb, hml, hown, ht⟩ (mt_X7_add l dC dI h1 h2 k0 r_10 v_tape_count_67 v_tape_over_67 v_tape_there v_tape_items_67 nv_tape_items _ w_10 H_10.size) (cwV 1 ht (goodV tw_865 tw_866 tw_867 tw_237 gw_X7_add) rfl rfl rfl (by decide +kernel) ⟨Nat.le_of_ble_eq_true rfl, Nat.le_of_ble_eq_true rfl⟩) ⟨fun a U g mk q => by obtain ⟨q0, q1, qP, qK, qD⟩ := q; exact ⟨q0, q1, qP, va_K.moved (u := U) (U := U.calling g mk a) (Vm.Alike.refl U.vm) qK, qD⟩, va_recv hKc_11 hPc_11 (ci := 10) (q0 := 0) rfl rfl, fun U hU hW => ⟨rfl, by rw [hU], by rw [hU]; exact hPc_11, va_K.moved hW.alike hKc_11, hDc_11.weaken (fun _ _ _ _ => trivial)⟩⟩ rfl rfl hl_b67.1 rfl (lv_room (Nat.le_of_ble_eq_true rfl)) dX11_feed_82 ⟨Nat.le_of_ble_eq_true rfl, Nat.le_of_ble_eq_true rfl⟩) hS_10 (fun q _ h => hFc_11 q h) hFc_11 (fun u_11 t_11 H_11 locs_11 ht_11 hvm_11 hw_11 hB_11 hz_11 hk_11 hS_11 => ?_)
                    subst hw_11
                    obtain ⟨r_11_0, r_11_1, r_11_2, w_11, hP1_11, hD1_11⟩ := hB_11
                    rw [ht_11] at hP1_11
                    obtain ⟨hP_11, hD_11⟩ := va_join (wr := [(h0, .inr (14, oX11 (.ref h1) (.ref h3) (.ref h4) (.ref h5) v_outHasNumbers (.ref h6) (.ref h7) (.ref h8) (.ref h9) (.ref h10) (.ref h11) (.ref h12) (.ref h13) v_faultPlace v_latestFinding v_latestSteps v_openSlot v_openSubject))]) (w1 := [(h1, .inr (10, oX7 (.ref h2) r_11_0 r_11_1 v_tape_there)), (h2, .inl (k0, nv_tape_items, .inl r_11_2))]) hP_10 hD_10 [1, 2] [0] rfl rfl (by decide) (by decide) hk_11 hFc_11 hP1_11 hD1_11
                    have hP_11 := hP_11.sub (ws' := [(h0, .inr (14, oX11 (.ref h1) (.ref h3) (.ref h4) (.ref h5) v_outHasNumbers (.ref h6) (.ref h7) (.ref h8) (.ref h9) (.ref h10) (.ref h11) (.ref h12) (.ref h13) v_faultPlace v_latestFinding v_latestSteps v_openSlot v_openSubject)), (h1, .inr (10, oX7 (.ref h2) r_11_0 r_11_1 v_tape_there)), (h2, .inl (k0, nv_tape_items, .inl r_11_2))]) [0, 1, 2] rfl
                    have hD_11 := hD_11.sub (ws' := [(h0, .inr (14, oX11 (.ref h1) (.ref h3) (.ref h4) (.ref h5) v_outHasNumbers (.ref h6) (.ref h7) (.ref h8) (.ref h9) (.ref h10) (.ref h11) (.ref h12) (.ref h13) v_faultPlace v_latestFinding v_latestSteps v_openSlot v_openSubject)), (h1, .inr (10, oX7 (.ref h2) r_11_0 r_11_1 v_tape_there)), (h2, .inl (k0, nv_tape_items, .inl r_11_2))]) [0, 1, 2] (by decide) rfl
                    clear hPc_11 hDc_11 hKc_11 hFc_11 hP1_11 hD1_11 hk_11 hz_11
                    obtain ⟨x_12, ex_12⟩ : ∃ y : Int32, y = l4_67 + (-1) := ⟨_, rfl⟩
                    refine lv_iinc (v := x_12) (lv' := [(4, .int x_12), (0, .ref h0), (2, .long p2)]) hx hb dX11_feed_85 hl_b67 (k := 2) rfl ex_12.symm (by decide) rfl (fun ls_12 hl_12 => ?_)
                    refine lv_goto (tgt := 67) hx hb dX11_feed_88 (by decide) ?_
                    exact ih_67 x_12 r_11_0 r_11_1 r_11_2 _ _ _ (w_11 x_12 ex_12) hP_11 hD_11 hS_11 (lv_sub hl_12 [1, 2, 0] rfl)
              obtain ⟨n_13, w_13⟩ := ((w_b17.1 c_4 x_5 ex_5).1 c_6) x_7 ex_7
              exact k_67 n_13 x_7 v_tape_count_17 v_tape_over_17 v_tape_items_17 _ _ _ w_13 hP_b17 hD_b17 hS_b17 (lv_sub hl_8 [1, 3, 0] rfl)
            · refine lv_bipush (v := (-9)) hx hb dX11_feed_59 (by decide) ?_
              rw [hQQ]
              exact W.iret (v := (-9)) hx hb hr (fun t9 ht9 hW9 => ⟨⟨(-9), (-9), rfl, rfl, ⟨v_tape_count_17, v_tape_over_17, v_tape_items_17, (w_b17.1 c_4 x_5 ex_5).2 c_6, by rw [ht9]; exact hP_b17, hD_b17⟩⟩, hS_b17.F ht9⟩) hS_b17.2.2 dX11_feed_61
          · refine lv_lload_n hx hb dX11_feed_23 rfl (lv_at hl_b17 2 rfl) ?_
            refine lv_iload hx hb dX11_feed_24 (lv_at hl_b17 3 rfl) ?_
            have hPc_14 := hP_b17.sub (ws' := []) [] rfl
            have hDc_14 := hD_b17.sub (ws' := []) [] (by decide) rfl
            have hKc_14 := hK.sub (tys' := []) [] rfl
            have hFc_14 := va_free (wc := []) hD_b17 hS_b17 hA [] rfl
            refine va_calli (va_runS (As := [.long p2, .int l4_17]) (rest := []) ⟨hx, hb, hml, hown, ht⟩ (mt_X11_byteOf l dC dI p2 l4_17 _ (w_b17.2 c_4) H_b17.size) (cwS 2 ht (goodS tw_859 tw_860 tw_236 gw_X11_byteOf) rfl rfl rfl (by decide +kernel) ⟨Nat.le_of_ble_eq_true rfl, Nat.le_of_ble_eq_true rfl⟩) ⟨fun a U g mk q => by obtain ⟨q0, q1, qP, qK, qD⟩ := q; exact ⟨q0, q1, qP, va_K.moved (u := U) (U := U.calling g mk a) (Vm.Alike.refl U.vm) qK, qD⟩, fun U hU hW => ⟨rfl, by rw [hU], by rw [hU]; exact hPc_14, va_K.moved hW.alike hKc_14, hDc_14.weaken (fun _ _ _ _ => trivial)⟩⟩ rfl rfl hl_b17.1 rfl (lv_room (Nat.le_of_ble_eq_true rfl)) dX11_feed_26 ⟨Nat.le_of_ble_eq_true rfl, Nat.le_of_ble_eq_true rfl⟩) hS_b17 (fun q _ h => hFc_14 q h) hFc_14 (fun r_14 u_14 t_14 H_14 locs_14 ht_14 hvm_14 hw_14 hB_14 hz_14 hk_14 hS_14 => ?_)
            subst hw_14
            obtain ⟨w_14, hP1_14, hD1_14⟩ := hB_14
            rw [ht_14] at hP1_14
            obtain ⟨hP_14, hD_14⟩ := va_join (wr := [(h0, .inr (14, oX11 (.ref h1) (.ref h3) (.ref h4) (.ref h5) v_outHasNumbers (.ref h6) (.ref h7) (.ref h8) (.ref h9) (.ref h10) (.ref h11) (.ref h12) (.ref h13) v_faultPlace v_latestFinding v_latestSteps v_openSlot v_openSubject)), (h1, .inr (10, oX7 (.ref h2) v_tape_count_17 v_tape_over_17 v_tape_there)), (h2, .inl (k0, nv_tape_items, .inl v_tape_items_17))]) (w1 := []) hP_b17 hD_b17 [] [0, 1, 2] rfl rfl (by decide) (by decide) hk_14 hFc_14 hP1_14 hD1_14
            have hP_14 := hP_14.sub (ws' := [(h0, .inr (14, oX11 (.ref h1) (.ref h3) (.ref h4) (.ref h5) v_outHasNumbers (.ref h6) (.ref h7) (.ref h8) (.ref h9) (.ref h10) (.ref h11) (.ref h12) (.ref h13) v_faultPlace v_latestFinding v_latestSteps v_openSlot v_openSubject)), (h1, .inr (10, oX7 (.ref h2) v_tape_count_17 v_tape_over_17 v_tape_there)), (h2, .inl (k0, nv_tape_items, .inl v_tape_items_17))]) [0, 1, 2] rfl
            have hD_14 := hD_14.sub (ws' := [(h0, .inr (14, oX11 (.ref h1) (.ref h3) (.ref h4) (.ref h5) v_outHasNumbers (.ref h6) (.ref h7) (.ref h8) (.ref h9) (.ref h10) (.ref h11) (.ref h12) (.ref h13) v_faultPlace v_latestFinding v_latestSteps v_openSlot v_openSubject)), (h1, .inr (10, oX7 (.ref h2) v_tape_count_17 v_tape_over_17 v_tape_there)), (h2, .inl (k0, nv_tape_items, .inl v_tape_items_17))]) [0, 1, 2] (by decide) rfl
            clear hPc_14 hDc_14 hKc_14 hFc_14 hP1_14 hD1_14 hk_14 hz_14
            have hPc_15 := hP_14.sub (ws' := []) [] rfl
            have hDc_15 := hD_14.sub (ws' := []) [] (by decide) rfl
            have hKc_15 := hK.sub (tys' := []) [] rfl
            have hFc_15 := va_free (wc := []) hD_14 hS_14 hA [] rfl
            refine va_calli (va_runS (As := [.int r_14]) (rest := []) ⟨hx, hb, hml, hown, ht⟩ (mt_X11_isTapeSign l dC dI r_14 _ w_14 H_14.size) (cwS 1 ht (goodS tw_862 tw_863 tw_236 gw_X11_isTapeSign) rfl rfl rfl (by decide +kernel) ⟨Nat.le_of_ble_eq_true rfl, Nat.le_of_ble_eq_true rfl⟩) ⟨fun a U g mk q => by obtain ⟨q0, q1, qP, qK, qD⟩ := q; exact ⟨q0, q1, qP, va_K.moved (u := U) (U := U.calling g mk a) (Vm.Alike.refl U.vm) qK, qD⟩, fun U hU hW => ⟨rfl, by rw [hU], by rw [hU]; exact hPc_15, va_K.moved hW.alike hKc_15, hDc_15.weaken (fun _ _ _ _ => trivial)⟩⟩ rfl rfl hl_b17.1 rfl (lv_room (Nat.le_of_ble_eq_true rfl)) dX11_feed_29 ⟨Nat.le_of_ble_eq_true rfl, Nat.le_of_ble_eq_true rfl⟩) hS_14 (fun q _ h => hFc_15 q h) hFc_15 (fun r_15 u_15 t_15 H_15 locs_15 ht_15 hvm_15 hw_15 hB_15 hz_15 hk_15 hS_15 => ?_)
            subst hw_15
            obtain ⟨w_15, hP1_15, hD1_15⟩ := hB_15
            rw [ht_15] at hP1_15
            obtain ⟨hP_15, hD_15⟩ := va_join (wr := [(h0, .inr (14, oX11 (.ref h1) (.ref h3) (.ref h4) (.ref h5) v_outHasNumbers (.ref h6) (.ref h7) (.ref h8) (.ref h9) (.ref h10) (.ref h11) (.ref h12) (.ref h13) v_faultPlace v_latestFinding v_latestSteps v_openSlot v_openSubject)), (h1, .inr (10, oX7 (.ref h2) v_tape_count_17 v_tape_over_17 v_tape_there)), (h2, .inl (k0, nv_tape_items, .inl v_tape_items_17))]) (w1 := []) hP_14 hD_14 [] [0, 1, 2] rfl rfl (by decide) (by decide) hk_15 hFc_15 hP1_15 hD1_15
            have hP_15 := hP_15.sub (ws' := [(h0, .inr (14, oX11 (.ref h1) (.ref h3) (.ref h4) (.ref h5) v_outHasNumbers (.ref h6) (.ref h7) (.ref h8) (.ref h9) (.ref h10) (.ref h11) (.ref h12) (.ref h13) v_faultPlace v_latestFinding v_latestSteps v_openSlot v_openSubject)), (h1, .inr (10, oX7 (.ref h2) v_tape_count_17 v_tape_over_17 v_tape_there)), (h2, .inl (k0, nv_tape_items, .inl v_tape_items_17))]) [0, 1, 2] rfl
            have hD_15 := hD_15.sub (ws' := [(h0, .inr (14, oX11 (.ref h1) (.ref h3) (.ref h4) (.ref h5) v_outHasNumbers (.ref h6) (.ref h7) (.ref h8) (.ref h9) (.ref h10) (.ref h11) (.ref h12) (.ref h13) v_faultPlace v_latestFinding v_latestSteps v_openSlot v_openSubject)), (h1, .inr (10, oX7 (.ref h2) v_tape_count_17 v_tape_over_17 v_tape_there)), (h2, .inl (k0, nv_tape_items, .inl v_tape_items_17))]) [0, 1, 2] (by decide) rfl
            clear hPc_15 hDc_15 hKc_15 hFc_15 hP1_15 hD1_15 hk_15 hz_15
            refine lv_if_ne (tgt := 38) hx hb dX11_feed_32 (by decide) (fun c_16 => ?_) (fun c_16 => ?_)
            · obtain ⟨x_17, ex_17⟩ : ∃ y : Int32, y = l4_17 + 1 := ⟨_, rfl⟩
              refine lv_iinc (v := x_17) (lv' := [(4, .int x_17), (0, .ref h0), (1, .int p1), (2, .long p2)]) hx hb dX11_feed_38 hl_b17 (k := 3) rfl ex_17.symm (by decide) rfl (fun ls_17 hl_17 => ?_)
              refine lv_goto (tgt := 17) hx hb dX11_feed_41 (by decide) ?_
              exact ih_17 x_17 _ _ _ (w_15.1 c_16 x_17 ex_17) hP_15 hD_15 hS_15 (lv_sub hl_17 [1, 2, 3, 0] rfl)
            · refine lv_bipush (v := (-4)) hx hb dX11_feed_35 (by decide) ?_
              rw [hQQ]
              exact W.iret (v := (-4)) hx hb hr (fun t9 ht9 hW9 => ⟨⟨(-4), (-4), rfl, rfl, ⟨v_tape_count_17, v_tape_over_17, v_tape_items_17, w_15.2 c_16, by rw [ht9]; exact hP_15, hD_15⟩⟩, hS_15.F ht9⟩) hS_15.2.2 dX11_feed_37
      obtain ⟨n_18, w_18⟩ := (w.2 c_1).1 c_2
      exact k_17 v_tape_count v_tape_over v_tape_items n_18 0 _ _ _ w_18 hP hD hS (lv_sub hl_3 [1, 2, 3, 0] rfl)
    · exact k_11 v_tape_count v_tape_over v_tape_items _ _ _ ((w.2 c_1).2 c_2) hP hD hS (lv_sub hl [] rfl)
