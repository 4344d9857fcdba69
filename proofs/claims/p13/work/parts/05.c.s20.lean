def w_X9_next_50 (Q : Int32 → Prop) (s0_50 : Int32) : Prop :=
  Q s0_50
def w_X9_next_29 (p1 : Int32) (p2 : Int32) (v_goes : Nat → Int32) (Q : Int32 → Prop) (s0_29 : Int32) : Prop :=
  ((s0_29 = 0) → w_X9_next_50 Q 0) ∧ ((¬ s0_29 = 0) → ∀ x_3 : Int32, x_3 = p1 * (256 : Int32) → ∀ x_4 : Int32, x_4 = x_3 + p2 → vp_in x_4 15360 ∧ ∀ x_5 : Int32, x_5 = v_goes x_4.toNatClampNeg → w_X9_next_50 Q x_5)
def w_X9_next_28 (p1 : Int32) (p2 : Int32) (v_goes : Nat → Int32) (Q : Int32 → Prop) : Prop :=
  w_X9_next_29 p1 p2 v_goes Q 0
def w_X9_next (p1 : Int32) (p2 : Int32) (v_count : Int32) (v_width : Int32) (v_goes : Nat → Int32) (Q : Int32 → Prop) : Prop :=
  ((p1 < 0) → w_X9_next_28 p1 p2 v_goes Q) ∧ ((¬ p1 < 0) → ((v_count ≤ p1) → w_X9_next_28 p1 p2 v_goes Q) ∧ ((¬ v_count ≤ p1) → ((p2 < 0) → w_X9_next_28 p1 p2 v_goes Q) ∧ ((¬ p2 < 0) → ((v_width ≤ p2) → w_X9_next_28 p1 p2 v_goes Q) ∧ ((¬ v_width ≤ p2) → w_X9_next_29 p1 p2 v_goes Q 1))))
set_option maxHeartbeats 4000000 in
set_option maxRecDepth 100000 in
theorem mt_X9_next (l : Launch) (dC : Nat → ClassId) (dI : Nat → Nat → Nat) (h0 h1 h2 h3 h4 h5 h6 h7 h8 h9 h10 h11 h12 h13 : Nat) (k0 : ClassId) (p1 : Int32) (p2 : Int32) (v_count : Int32) (v_positionCount : Int32) (v_stamp : Int32) (v_stackCount : Int32) (v_width : Int32) (v_goes : Nat → Int32) (Q : Int32 → Prop) (w : w_X9_next p1 p2 v_count v_width v_goes Q) (sz : Nat) : Met l yX9_next (WS yX9_next cX9_next 4 (some (.int))) ({ frames := 0, cells := 0, slots := 0, locals := 0 } : Room) (va_Pc [.ref h0, .int p1, .int p2] (fun U => U.heap.size = sz ∧ va_P (dC, dI) vwCl [(h0, .inr (12, oX9 v_count (.ref h2) v_positionCount (.ref h3) (.ref h4) (.ref h5) (.ref h6) (.ref h7) v_stamp (.ref h8) v_stackCount v_width (.ref h9) (.ref h10) (.ref h1) (.ref h11) (.ref h12) (.ref h13))), (h1, .inl (k0, 15360, .inl v_goes))] U.heap ∧ va_K (dC, dI) vwCl [(k0, .int)] U ∧ va_D (fun _ => True) [(h0, .inr (12, oX9 v_count (.ref h2) v_positionCount (.ref h3) (.ref h4) (.ref h5) (.ref h6) (.ref h7) v_stamp (.ref h8) v_stackCount v_width (.ref h9) (.ref h10) (.ref h1) (.ref h11) (.ref h12) (.ref h13))), (h1, .inl (k0, 15360, .inl v_goes))])) (va_Qi (fun (r u : Int32) => r = u) (fun (u : Int32) (t : State) => (Q u) ∧ va_P (dC, dI) vwCl [(h0, .inr (12, oX9 v_count (.ref h2) v_positionCount (.ref h3) (.ref h4) (.ref h5) (.ref h6) (.ref h7) v_stamp (.ref h8) v_stackCount v_width (.ref h9) (.ref h10) (.ref h1) (.ref h11) (.ref h12) (.ref h13))), (h1, .inl (k0, 15360, .inl v_goes))] t.heap ∧ va_D (va_A [(h0, .inr (12, oX9 v_count (.ref h2) v_positionCount (.ref h3) (.ref h4) (.ref h5) (.ref h6) (.ref h7) v_stamp (.ref h8) v_stackCount v_width (.ref h9) (.ref h10) (.ref h1) (.ref h11) (.ref h12) (.ref h13))), (h1, .inl (k0, 15360, .inl v_goes))] sz) [(h0, .inr (12, oX9 v_count (.ref h2) v_positionCount (.ref h3) (.ref h4) (.ref h5) (.ref h6) (.ref h7) v_stamp (.ref h8) v_stackCount v_width (.ref h9) (.ref h10) (.ref h1) (.ref h11) (.ref h12) (.ref h13))), (h1, .inl (k0, 15360, .inl v_goes))]) (va_A [(h0, .inr (12, oX9 v_count (.ref h2) v_positionCount (.ref h3) (.ref h4) (.ref h5) (.ref h6) (.ref h7) v_stamp (.ref h8) v_stackCount v_width (.ref h9) (.ref h10) (.ref h1) (.ref h11) (.ref h12) (.ref h13))), (h1, .inl (k0, 15360, .inl v_goes))] sz)) 0 0 (va_A [(h0, .inr (12, oX9 v_count (.ref h2) v_positionCount (.ref h3) (.ref h4) (.ref h5) (.ref h6) (.ref h7) v_stamp (.ref h8) v_stackCount v_width (.ref h9) (.ref h10) (.ref h1) (.ref h11) (.ref h12) (.ref h13))), (h1, .inl (k0, 15360, .inl v_goes))] sz) := by
  refine Met.ofW (cc := cX9_next) (maxL := 4) (ret := (some (.int))) (by decide) rfl ?_
  intro p e s m args below meth c s₁ B hml hv
  obtain ⟨rfl, hsz, hP, hK, hD0⟩ := hv
  have hx := B.exec
  have hb := B.bytes
  have hr := B.returns
  have hts := atoms_spec (ws := WS yX9_next cX9_next 4 (some (.int))) B.pre
  have ht : ∀ w ∈ TW, w.before _ s = true := fun w h => hts w (List.mem_cons_of_mem _ h)
  have hown : s.vm.findClass "PatternWorkshop$Table" = some m.cls := findClass_of_methodNamed B.named
  have hlocks := B.notSynchronized
  subst hsz
  have hD := hD0.self (sz := s.heap.size)
  generalize hAe : va_A [(h0, .inr (12, oX9 v_count (.ref h2) v_positionCount (.ref h3) (.ref h4) (.ref h5) (.ref h6) (.ref h7) v_stamp (.ref h8) v_stackCount v_width (.ref h9) (.ref h10) (.ref h1) (.ref h11) (.ref h12) (.ref h13))), (h1, .inl (k0, 15360, .inl v_goes))] s.heap.size = A at hD ⊢
  have hA : ∀ q : Nat, s.heap.size ≤ q → A q := fun q h => by rw [← hAe]; exact Or.inr h
  have hS : va_S A s.heap s.heap [] := va_S.rf
  have hP : va_P (dC, dI) vwCl [(h0, .inr (12, oX9 v_count (.ref h2) v_positionCount (.ref h3) (.ref h4) (.ref h5) (.ref h6) (.ref h7) v_stamp (.ref h8) v_stackCount v_width (.ref h9) (.ref h10) (.ref h1) (.ref h11) (.ref h12) (.ref h13))), (h1, .inl (k0, 15360, .inl v_goes))] s.heap := hP
  have hl := lv_entry ([.ref h0, .int p1, .int p2]) (n := 4) (Nat.le_of_ble_eq_true rfl)
  rw [lg_entry_eq]
  generalize (lg_sl ([.ref h0, .int p1, .int p2]) ++ List.replicate (4 - (lg_sl ([.ref h0, .int p1, .int p2])).length) Slot.unset).toArray = ls at hl ⊢
  have hl : lv_has ls 4 [(0, .ref h0), (1, .int p1), (2, .int p2)] := hl
  clear hD0
  obtain ⟨QQ, hQQ⟩ : ∃ QQ, QQ = MQ below (va_Qi (fun (r u : Int32) => r = u) (fun (u : Int32) (t : State) => (Q u) ∧ va_P (dC, dI) vwCl [(h0, .inr (12, oX9 v_count (.ref h2) v_positionCount (.ref h3) (.ref h4) (.ref h5) (.ref h6) (.ref h7) v_stamp (.ref h8) v_stackCount v_width (.ref h9) (.ref h10) (.ref h1) (.ref h11) (.ref h12) (.ref h13))), (h1, .inl (k0, 15360, .inl v_goes))] t.heap ∧ va_D A [(h0, .inr (12, oX9 v_count (.ref h2) v_positionCount (.ref h3) (.ref h4) (.ref h5) (.ref h6) (.ref h7) v_stamp (.ref h8) v_stackCount v_width (.ref h9) (.ref h10) (.ref h1) (.ref h11) (.ref h12) (.ref h13))), (h1, .inl (k0, 15360, .inl v_goes))]) A) ([.ref h0, .int p1, .int p2]).toArray s 0 0 A := ⟨_, rfl⟩
  show W p l e ({ frames := 0, cells := 0, slots := 0, locals := 0 } : Room) s m ([.ref h0, .int p1, .int p2]).toArray below meth c s.heap [] 0 0 (MQ below (va_Qi (fun (r u : Int32) => r = u) (fun (u : Int32) (t : State) => (Q u) ∧ va_P (dC, dI) vwCl [(h0, .inr (12, oX9 v_count (.ref h2) v_positionCount (.ref h3) (.ref h4) (.ref h5) (.ref h6) (.ref h7) v_stamp (.ref h8) v_stackCount v_width (.ref h9) (.ref h10) (.ref h1) (.ref h11) (.ref h12) (.ref h13))), (h1, .inl (k0, 15360, .inl v_goes))] t.heap ∧ va_D A [(h0, .inr (12, oX9 v_count (.ref h2) v_positionCount (.ref h3) (.ref h4) (.ref h5) (.ref h6) (.ref h7) v_stamp (.ref h8) v_stackCount v_width (.ref h9) (.ref h10) (.ref h1) (.ref h11) (.ref h12) (.ref h13))), (h1, .inl (k0, 15360, .inl v_goes))]) A) ([.ref h0, .int p1, .int p2]).toArray s 0 0 A) (F0 m 0 ls [])
  rw [← hQQ]
  unfold w_X9_next at w
  refine lv_iload_n hx hb dX9_next_0 rfl (lv_at hl 1 rfl) ?_
  have k_29 : ∀ (s0_29 : Int32), ∀ (H_b29 : Heap) (locs_b29 : List Loc) (ls_b29 : Array Slot), w_X9_next_29 p1 p2 v_goes Q s0_29 → va_P (dC, dI) vwCl [(h0, .inr (12, oX9 v_count (.ref h2) v_positionCount (.ref h3) (.ref h4) (.ref h5) (.ref h6) (.ref h7) v_stamp (.ref h8) v_stackCount v_width (.ref h9) (.ref h10) (.ref h1) (.ref h11) (.ref h12) (.ref h13))), (h1, .inl (k0, 15360, .inl v_goes))] H_b29 → va_D A [(h0, .inr (12, oX9 v_count (.ref h2) v_positionCount (.ref h3) (.ref h4) (.ref h5) (.ref h6) (.ref h7) v_stamp (.ref h8) v_stackCount v_width (.ref h9) (.ref h10) (.ref h1) (.ref h11) (.ref h12) (.ref h13))), (h1, .inl (k0, 15360, .inl v_goes))] → va_S A s.heap H_b29 locs_b29 → lv_has ls_b29 4 [(0, .ref h0), (1, .int p1), (2, .int p2)] → W p l e ({ frames := 0, cells := 0, slots := 0, locals := 0 } : Room) s m ([.ref h0, .int p1, .int p2]).toArray below meth c H_b29 locs_b29 0 0 QQ (F0 m 29 ls_b29 [.int s0_29]) := by
    intro s0_29 H_b29 locs_b29 ls_b29 w_b29 hP_b29 hD_b29 hS_b29 hl_b29
    unfold w_X9_next_29 at w_b29
    refine lv_istore_n (lv' := [(3, .int s0_29), (0, .ref h0), (1, .int p1), (2, .int p2)]) hx hb dX9_next_29 rfl hl_b29 (by decide) rfl (fun ls_1 hl_1 => ?_)
    clear hl_b29
    refine lv_iload_n hx hb dX9_next_30 rfl (lv_at hl_1 0 rfl) ?_
    have k_50 : ∀ (s0_50 : Int32), ∀ (H_b50 : Heap) (locs_b50 : List Loc) (ls_b50 : Array Slot), w_X9_next_50 Q s0_50 → va_P (dC, dI) vwCl [(h0, .inr (12, oX9 v_count (.ref h2) v_positionCount (.ref h3) (.ref h4) (.ref h5) (.ref h6) (.ref h7) v_stamp (.ref h8) v_stackCount v_width (.ref h9) (.ref h10) (.ref h1) (.ref h11) (.ref h12) (.ref h13))), (h1, .inl (k0, 15360, .inl v_goes))] H_b50 → va_D A [(h0, .inr (12, oX9 v_count (.ref h2) v_positionCount (.ref h3) (.ref h4) (.ref h5) (.ref h6) (.ref h7) v_stamp (.ref h8) v_stackCount v_width (.ref h9) (.ref h10) (.ref h1) (.ref h11) (.ref h12) (.ref h13))), (h1, .inl (k0, 15360, .inl v_goes))] → va_S A s.heap H_b50 locs_b50 → lv_has ls_b50 4 [] → W p l e ({ frames := 0, cells := 0, slots := 0, locals := 0 } : Room) s m ([.ref h0, .int p1, .int p2]).toArray below meth c H_b50 locs_b50 0 0 QQ (F0 m 50 ls_b50 [.int s0_50]) := by
      intro s0_50 H_b50 locs_b50 ls_b50 w_b50 hP_b50 hD_b50 hS_b50 hl_b50
      unfold w_X9_next_50 at w_b50
      rw [hQQ]
      exact W.iret (v := s0_50) hx hb hr (fun t9 ht9 hW9 => ⟨⟨s0_50, s0_50, rfl, rfl, ⟨w_b50, by rw [ht9]; exact hP_b50, hD_b50⟩⟩, hS_b50.F ht9⟩) hS_b50.2.2 dX9_next_50
    refine lv_if_eq (tgt := 49) hx hb dX9_next_31 (by decide) (fun c_2 => ?_) (fun c_2 => ?_)
    · refine lv_iconst (v := 0) hx hb dX9_next_49 (by decide) ?_
      exact k_50 0 _ _ _ (w_b29.1 c_2) hP_b29 hD_b29 hS_b29 (lv_sub hl_1 [] rfl)
    · refine lv_aload_n hx hb dX9_next_34 rfl (lv_at hl_1 1 rfl) ?_
      refine va_get (D := (dC, dI)) (ci := 12) (v := .ref h1) (C := RX9) (T := TX9) (N := 18) hx hb ht inX9 hown hK hP_b29 0 rfl rfl 14 (by decide) (ht _ tw_716) (fun _ h9 => h9) rfl dX9_next_35 ?_
      refine lv_iload_n hx hb dX9_next_38 rfl (lv_at hl_1 2 rfl) ?_
      refine lv_sipush (v := 256) hx hb dX9_next_39 (by decide) ?_
      refine lv_imul hx hb dX9_next_42 ?_
      refine lv_topi (fun x_3 ex_3 => ?_)
      have ex_3 : x_3 = p1 * (256 : Int32) := ex_3
      refine lv_iload_n hx hb dX9_next_43 rfl (lv_at hl_1 3 rfl) ?_
      refine lv_iadd hx hb dX9_next_44 ?_
      refine lv_topi (fun x_4 ex_4 => ?_)
      have ex_4 : x_4 = x_3 + p2 := ex_4
      refine va_iald hx hb hK hP_b29 1 0 rfl rfl (i := x_4) (w_b29.2 c_2 x_3 ex_3 x_4 ex_4).1 dX9_next_45 ?_
      refine lv_topi (fun x_5 ex_5 => ?_)
      have ex_5 : x_5 = v_goes x_4.toNatClampNeg := ex_5
      refine lv_goto (tgt := 50) hx hb dX9_next_46 (by decide) ?_
      have w_6 := ((w_b29.2 c_2 x_3 ex_3 x_4 ex_4).2) x_5 ex_5
      exact k_50 x_5 _ _ _ w_6 hP_b29 hD_b29 hS_b29 (lv_sub hl_1 [] rfl)
  have k_28 : ∀ (H_b28 : Heap) (locs_b28 : List Loc) (ls_b28 : Array Slot), w_X9_next_28 p1 p2 v_goes Q → va_P (dC, dI) vwCl [(h0, .inr (12, oX9 v_count (.ref h2) v_positionCount (.ref h3) (.ref h4) (.ref h5) (.ref h6) (.ref h7) v_stamp (.ref h8) v_stackCount v_width (.ref h9) (.ref h10) (.ref h1) (.ref h11) (.ref h12) (.ref h13))), (h1, .inl (k0, 15360, .inl v_goes))] H_b28 → va_D A [(h0, .inr (12, oX9 v_count (.ref h2) v_positionCount (.ref h3) (.ref h4) (.ref h5) (.ref h6) (.ref h7) v_stamp (.ref h8) v_stackCount v_width (.ref h9) (.ref h10) (.ref h1) (.ref h11) (.ref h12) (.ref h13))), (h1, .inl (k0, 15360, .inl v_goes))] → va_S A s.heap H_b28 locs_b28 → lv_has ls_b28 4 [(0, .ref h0), (1, .int p1), (2, .int p2)] → W p l e ({ frames := 0, cells := 0, slots := 0, locals := 0 } : Room) s m ([.ref h0, .int p1, .int p2]).toArray below meth c H_b28 locs_b28 0 0 QQ (F0 m 28 ls_b28 []) := by
    intro  H_b28 locs_b28 ls_b28 w_b28 hP_b28 hD_b28 hS_b28 hl_b28
    unfold w_X9_next_28 at w_b28
    refine lv_iconst (v := 0) hx hb dX9_next_28 (by decide) ?_
    exact k_29 0 _ _ _ w_b28 hP_b28 hD_b28 hS_b28 (lv_sub hl_b28 [0, 1, 2] rfl)
  refine lv_if_lt (tgt := 28) hx hb dX9_next_1 (by decide) (fun c_7 => ?_) (fun c_7 => ?_)
  · exact k_28  _ _ _ (w.1 c_7) hP hD hS (lv_sub hl [0, 1, 2] rfl)
  · refine lv_iload_n hx hb dX9_next_4 rfl (lv_at hl 1 rfl) ?_
    refine lv_aload_n hx hb dX9_next_5 rfl (lv_at hl 0 rfl) ?_
    refine va_get (D := (dC, dI)) (ci := 12) (v := .int v_count) (C := RX9) (T := TX9) (N := 18) hx hb ht inX9 hown hK hP 0 rfl rfl 0 (by decide) (ht _ tw_701) (fun _ h9 => h9) rfl dX9_next_6 ?_
    refine lv_icmp_ge (tgt := 28) hx hb dX9_next_9 (by decide) (fun c_8 => ?_) (fun c_8 => ?_)
    · exact k_28  _ _ _ ((w.2 c_7).1 c_8) hP hD hS (lv_sub hl [0, 1, 2] rfl)
    · refine lv_iload_n hx hb dX9_next_12 rfl (lv_at hl 2 rfl) ?_
      refine lv_if_lt (tgt := 28) hx hb dX9_next_13 (by decide) (fun c_9 => ?_) (fun c_9 => ?_)
      · exact k_28  _ _ _ (((w.2 c_7).2 c_8).1 c_9) hP hD hS (lv_sub hl [0, 1, 2] rfl)
      · refine lv_iload_n hx hb dX9_next_16 rfl (lv_at hl 2 rfl) ?_
        refine lv_aload_n hx hb dX9_next_17 rfl (lv_at hl 0 rfl) ?_
        refine va_get (D := (dC, dI)) (ci := 12) (v := .int v_width) (C := RX9) (T := TX9) (N := 18) hx hb ht inX9 hown hK hP 0 rfl rfl 11 (by decide) (ht _ tw_713) (fun _ h9 => h9) rfl dX9_next_18 ?_
        refine lv_icmp_ge (tgt := 28) hx hb dX9_next_21 (by decide) (fun c_10 => ?_) (fun c_10 => ?_)
        · exact k_28  _ _ _ ((((w.2 c_7).2 c_8).2 c_9).1 c_10) hP hD hS (lv_sub hl [0, 1, 2] rfl)
        · refine lv_iconst (v := 1) hx hb dX9_next_24 (by decide) ?_
          refine lv_goto (tgt := 29) hx hb dX9_next_25 (by decide) ?_
          exact k_29 1 _ _ _ ((((w.2 c_7).2 c_8).2 c_9).2 c_10) hP hD hS (lv_sub hl [0, 1, 2] rfl)
def w_X9_leadsToLive_38 (Q : Int32 → Prop) (K2 : Int32 → Prop) (l2_38 : Int32) : Prop :=
  ∀ x_5 : Int32, x_5 = l2_38 + 1 → K2 x_5
def w_X9_leadsToLive_2B (p1 : Int32) (v_count : Int32) (v_width : Int32) (v_goes : Nat → Int32) (v_live : Nat → Bool) (Q : Int32 → Prop) (K2 : Int32 → Prop) (l2_2 : Int32) : Prop :=
  ((v_width ≤ l2_2) → Q 0) ∧ ((¬ v_width ≤ l2_2) → w_X9_next p1 l2_2 v_count v_width v_goes (fun r_3 => ((r_3 < 0) → w_X9_leadsToLive_38 Q K2 l2_2) ∧ ((¬ r_3 < 0) → ((60 ≤ r_3) → w_X9_leadsToLive_38 Q K2 l2_2) ∧ ((¬ 60 ≤ r_3) → vp_in r_3 60 ∧ ∀ x_8 : Int32, x_8 = bz (v_live r_3.toNatClampNeg) → ((x_8 = 0) → w_X9_leadsToLive_38 Q K2 l2_2) ∧ ((¬ x_8 = 0) → Q 1)))))
def w_X9_leadsToLive_2 (p1 : Int32) (v_count : Int32) (v_width : Int32) (v_goes : Nat → Int32) (v_live : Nat → Bool) (Q : Int32 → Prop) : Nat → Int32 → Prop
  | 0, _ => False
  | n9 + 1, l2_2 => w_X9_leadsToLive_2B p1 v_count v_width v_goes v_live Q (w_X9_leadsToLive_2 p1 v_count v_width v_goes v_live Q n9) l2_2
def w_X9_leadsToLive (p1 : Int32) (v_count : Int32) (v_width : Int32) (v_goes : Nat → Int32) (v_live : Nat → Bool) (Q : Int32 → Prop) : Prop :=
  ∃ k9 : Nat, w_X9_leadsToLive_2 p1 v_count v_width v_goes v_live Q k9 0
set_option maxHeartbeats 4000000 in
set_option maxRecDepth 100000 in
theorem mt_X9_leadsToLive (l : Launch) (dC : Nat → ClassId) (dI : Nat → Nat → Nat) (h0 h1 h2 h3 h4 h5 h6 h7 h8 h9 h10 h11 h12 h13 : Nat) (k0 k1 : ClassId) (p1 : Int32) (v_count : Int32) (v_positionCount : Int32) (v_stamp : Int32) (v_stackCount : Int32) (v_width : Int32) (v_goes : Nat → Int32) (v_live : Nat → Bool) (Q : Int32 → Prop) (w : w_X9_leadsToLive p1 v_count v_width v_goes v_live Q) (sz : Nat) : Met l yX9_leadsToLive (WS yX9_leadsToLive cX9_leadsToLive 4 (some (.boolean))) ({ frames := 1, cells := 0, slots := 0, locals := 23 } : Room) (va_Pc [.ref h0, .int p1] (fun U => U.heap.size = sz ∧ va_P (dC, dI) vwCl [(h0, .inr (12, oX9 v_count (.ref h3) v_positionCount (.ref h4) (.ref h5) (.ref h6) (.ref h7) (.ref h8) v_stamp (.ref h9) v_stackCount v_width (.ref h10) (.ref h11) (.ref h1) (.ref h2) (.ref h12) (.ref h13))), (h1, .inl (k0, 15360, .inl v_goes)), (h2, .inl (k1, 60, .inl (fun q9 => bz (v_live q9))))] U.heap ∧ va_K (dC, dI) vwCl [(k0, .int), (k1, .boolean)] U ∧ va_D (fun _ => True) [(h0, .inr (12, oX9 v_count (.ref h3) v_positionCount (.ref h4) (.ref h5) (.ref h6) (.ref h7) (.ref h8) v_stamp (.ref h9) v_stackCount v_width (.ref h10) (.ref h11) (.ref h1) (.ref h2) (.ref h12) (.ref h13))), (h1, .inl (k0, 15360, .inl v_goes)), (h2, .inl (k1, 60, .inl (fun q9 => bz (v_live q9))))])) (va_Qi (fun (r u : Int32) => r = u) (fun (u : Int32) (t : State) => (Q u) ∧ va_P (dC, dI) vwCl [(h0, .inr (12, oX9 v_count (.ref h3) v_positionCount (.ref h4) (.ref h5) (.ref h6) (.ref h7) (.ref h8) v_stamp (.ref h9) v_stackCount v_width (.ref h10) (.ref h11) (.ref h1) (.ref h2) (.ref h12) (.ref h13))), (h1, .inl (k0, 15360, .inl v_goes)), (h2, .inl (k1, 60, .inl (fun q9 => bz (v_live q9))))] t.heap ∧ va_D (va_A [(h0, .inr (12, oX9 v_count (.ref h3) v_positionCount (.ref h4) (.ref h5) (.ref h6) (.ref h7) (.ref h8) v_stamp (.ref h9) v_stackCount v_width (.ref h10) (.ref h11) (.ref h1) (.ref h2) (.ref h12) (.ref h13))), (h1, .inl (k0, 15360, .inl v_goes)), (h2, .inl (k1, 60, .inl (fun q9 => bz (v_live q9))))] sz) [(h0, .inr (12, oX9 v_count (.ref h3) v_positionCount (.ref h4) (.ref h5) (.ref h6) (.ref h7) (.ref h8) v_stamp (.ref h9) v_stackCount v_width (.ref h10) (.ref h11) (.ref h1) (.ref h2) (.ref h12) (.ref h13))), (h1, .inl (k0, 15360, .inl v_goes)), (h2, .inl (k1, 60, .inl (fun q9 => bz (v_live q9))))]) (va_A [(h0, .inr (12, oX9 v_count (.ref h3) v_positionCount (.ref h4) (.ref h5) (.ref h6) (.ref h7) (.ref h8) v_stamp (.ref h9) v_stackCount v_width (.ref h10) (.ref h11) (.ref h1) (.ref h2) (.ref h12) (.ref h13))), (h1, .inl (k0, 15360, .inl v_goes)), (h2, .inl (k1, 60, .inl (fun q9 => bz (v_live q9))))] sz)) 0 0 (va_A [(h0, .inr (12, oX9 v_count (.ref h3) v_positionCount (.ref h4) (.ref h5) (.ref h6) (.ref h7) (.ref h8) v_stamp (.ref h9) v_stackCount v_width (.ref h10) (.ref h11) (.ref h1) (.ref h2) (.ref h12) (.ref h13))), (h1, .inl (k0, 15360, .inl v_goes)), (h2, .inl (k1, 60, .inl (fun q9 => bz (v_live q9))))] sz) := by
  refine Met.ofW (cc := cX9_leadsToLive) (maxL := 4) (ret := (some (.boolean))) (by decide) rfl ?_
  intro p e s m args below meth c s₁ B hml hv
  obtain ⟨rfl, hsz, hP, hK, hD0⟩ := hv
  have hx := B.exec
  have hb := B.bytes
  have hr := B.returns
  have hts := atoms_spec (ws := WS yX9_leadsToLive cX9_leadsToLive 4 (some (.boolean))) B.pre
  have ht : ∀ w ∈ TW, w.before _ s = true := fun w h => hts w (List.mem_cons_of_mem _ h)
  have hown : s.vm.findClass "PatternWorkshop$Table" = some m.cls := findClass_of_methodNamed B.named
  have hlocks := B.notSynchronized
  subst hsz
  have hD := hD0.self (sz := s.heap.size)
  generalize hAe : va_A [(h0, .inr (12, oX9 v_count (.ref h3) v_positionCount (.ref h4) (.ref h5) (.ref h6) (.ref h7) (.ref h8) v_stamp (.ref h9) v_stackCount v_width (.ref h10) (.ref h11) (.ref h1) (.ref h2) (.ref h12) (.ref h13))), (h1, .inl (k0, 15360, .inl v_goes)), (h2, .inl (k1, 60, .inl (fun q9 => bz (v_live q9))))] s.heap.size = A at hD ⊢
  have hA : ∀ q : Nat, s.heap.size ≤ q → A q := fun q h => by rw [← hAe]; exact Or.inr h
  have hS : va_S A s.heap s.heap [] := va_S.rf
  have hP : va_P (dC, dI) vwCl [(h0, .inr (12, oX9 v_count (.ref h3) v_positionCount (.ref h4) (.ref h5) (.ref h6) (.ref h7) (.ref h8) v_stamp (.ref h9) v_stackCount v_width (.ref h10) (.ref h11) (.ref h1) (.ref h2) (.ref h12) (.ref h13))), (h1, .inl (k0, 15360, .inl v_goes)), (h2, .inl (k1, 60, .inl (fun q9 => bz (v_live q9))))] s.heap := hP
  have hl := lv_entry ([.ref h0, .int p1]) (n := 4) (Nat.le_of_ble_eq_true rfl)
  rw [lg_entry_eq]
  generalize (lg_sl ([.ref h0, .int p1]) ++ List.replicate (4 - (lg_sl ([.ref h0, .int p1])).length) Slot.unset).toArray = ls at hl ⊢
  have hl : lv_has ls 4 [(0, .ref h0), (1, .int p1)] := hl
  clear hD0
  obtain ⟨QQ, hQQ⟩ : ∃ QQ, QQ = MQ below (va_Qi (fun (r u : Int32) => r = u) (fun (u : Int32) (t : State) => (Q u) ∧ va_P (dC, dI) vwCl [(h0, .inr (12, oX9 v_count (.ref h3) v_positionCount (.ref h4) (.ref h5) (.ref h6) (.ref h7) (.ref h8) v_stamp (.ref h9) v_stackCount v_width (.ref h10) (.ref h11) (.ref h1) (.ref h2) (.ref h12) (.ref h13))), (h1, .inl (k0, 15360, .inl v_goes)), (h2, .inl (k1, 60, .inl (fun q9 => bz (v_live q9))))] t.heap ∧ va_D A [(h0, .inr (12, oX9 v_count (.ref h3) v_positionCount (.ref h4) (.ref h5) (.ref h6) (.ref h7) (.ref h8) v_stamp (.ref h9) v_stackCount v_width (.ref h10) (.ref h11) (.ref h1) (.ref h2) (.ref h12) (.ref h13))), (h1, .inl (k0, 15360, .inl v_goes)), (h2, .inl (k1, 60, .inl (fun q9 => bz (v_live q9))))]) A) ([.ref h0, .int p1]).toArray s 0 0 A := ⟨_, rfl⟩
  show W p l e ({ frames := 1, cells := 0, slots := 0, locals := 23 } : Room) s m ([.ref h0, .int p1]).toArray below meth c s.heap [] 0 0 (MQ below (va_Qi (fun (r u : Int32) => r = u) (fun (u : Int32) (t : State) => (Q u) ∧ va_P (dC, dI) vwCl [(h0, .inr (12, oX9 v_count (.ref h3) v_positionCount (.ref h4) (.ref h5) (.ref h6) (.ref h7) (.ref h8) v_stamp (.ref h9) v_stackCount v_width (.ref h10) (.ref h11) (.ref h1) (.ref h2) (.ref h12) (.ref h13))), (h1, .inl (k0, 15360, .inl v_goes)), (h2, .inl (k1, 60, .inl (fun q9 => bz (v_live q9))))] t.heap ∧ va_D A [(h0, .inr (12, oX9 v_count (.ref h3) v_positionCount (.ref h4) (.ref h5) (.ref h6) (.ref h7) (.ref h8) v_stamp (.ref h9) v_stackCount v_width (.ref h10) (.ref h11) (.ref h1) (.ref h2) (.ref h12) (.ref h13))), (h1, .inl (k0, 15360, .inl v_goes)), (h2, .inl (k1, 60, .inl (fun q9 => bz (v_live q9))))]) A) ([.ref h0, .int p1]).toArray s 0 0 A) (F0 m 0 ls [])
  rw [← hQQ]
  unfold w_X9_leadsToLive at w
  refine lv_iconst (v := 0) hx hb dX9_leadsToLive_0 (by decide) ?_
  refine lv_istore_n (lv' := [(2, .int 0), (0, .ref h0), (1, .int p1)]) hx hb dX9_leadsToLive_1 rfl hl (by decide) rfl (fun ls_1 hl_1 => ?_)
  clear hl
  have k_2 : ∀ n_2 : Nat, ∀ (l2_2 : Int32), ∀ (H_b2 : Heap) (locs_b2 : List Loc) (ls_b2 : Array Slot), w_X9_leadsToLive_2 p1 v_count v_width v_goes v_live Q n_2 l2_2 → va_P (dC, dI) vwCl [(h0, .inr (12, oX9 v_count (.ref h3) v_positionCount (.ref h4) (.ref h5) (.ref h6) (.ref h7) (.ref h8) v_stamp (.ref h9) v_stackCount v_width (.ref h10) (.ref h11) (.ref h1) (.ref h2) (.ref h12) (.ref h13))), (h1, .inl (k0, 15360, .inl v_goes)), (h2, .inl (k1, 60, .inl (fun q9 => bz (v_live q9))))] H_b2 → va_D A [(h0, .inr (12, oX9 v_count (.ref h3) v_positionCount (.ref h4) (.ref h5) (.ref h6) (.ref h7) (.ref h8) v_stamp (.ref h9) v_stackCount v_width (.ref h10) (.ref h11) (.ref h1) (.ref h2) (.ref h12) (.ref h13))), (h1, .inl (k0, 15360, .inl v_goes)), (h2, .inl (k1, 60, .inl (fun q9 => bz (v_live q9))))] → va_S A s.heap H_b2 locs_b2 → lv_has ls_b2 4 [(0, .ref h0), (1, .int p1), (2, .int l2_2)] → W p l e ({ frames := 1, cells := 0, slots := 0, locals := 23 } : Room) s m ([.ref h0, .int p1]).toArray below meth c H_b2 locs_b2 0 0 QQ (F0 m 2 ls_b2 []) := by
    intro n_2
    induction n_2 with
    | zero =>
      intro l2_2 H_b2 locs_b2 ls_b2 w_b2 hP_b2 hD_b2 hS_b2 hl_b2
      exact False.elim (by unfold w_X9_leadsToLive_2 at w_b2; exact w_b2)
    | succ n_2 ih_2 =>
      intro l2_2 H_b2 locs_b2 ls_b2 w_b2 hP_b2 hD_b2 hS_b2 hl_b2
      unfold w_X9_leadsToLive_2 at w_b2
      unfold w_X9_leadsToLive_2B at w_b2
      refine lv_iload_n hx hb dX9_leadsToLive_2 rfl (lv_at hl_b2 2 rfl) ?_
      refine lv_aload_n hx hb dX9_leadsToLive_3 rfl (lv_at hl_b2 0 rfl) ?_
      refine va_get (D := (dC, dI)) (ci := 12) (v := .int v_width) (C := RX9) (T := TX9) (N := 18) hx hb ht inX9 hown hK hP_b2 0 rfl rfl 11 (by decide) (ht _ tw_713) (fun _ h9 => h9) rfl dX9_leadsToLive_4 ?_
      refine lv_icmp_ge (tgt := 44) hx hb dX9_leadsToLive_7 (by decide) (fun c_2 => ?_) (fun c_2 => ?_)
      · refine lv_iconst (v := 0) hx hb dX9_leadsToLive_44 (by decide) ?_
        rw [hQQ]
        exact W.zret (v := 0) hx hb hr rfl (fun t9 ht9 hW9 => ⟨⟨0, 0, rfl, rfl, ⟨w_b2.1 c_2, by rw [ht9]; exact hP_b2, hD_b2⟩⟩, hS_b2.F ht9⟩) hS_b2.2.2 dX9_leadsToLive_45
      · refine lv_aload_n hx hb dX9_leadsToLive_10 rfl (lv_at hl_b2 0 rfl) ?_
        refine lv_iload_n hx hb dX9_leadsToLive_11 rfl (lv_at hl_b2 1 rfl) ?_
        refine lv_iload_n hx hb dX9_leadsToLive_12 rfl (lv_at hl_b2 2 rfl) ?_
        have hPc_3 := hP_b2.sub (ws' := [(h0, .inr (12, oX9 v_count (.ref h3) v_positionCount (.ref h4) (.ref h5) (.ref h6) (.ref h7) (.ref h8) v_stamp (.ref h9) v_stackCount v_width (.ref h10) (.ref h11) (.ref h1) (.ref h2) (.ref h12) (.ref h13))), (h1, .inl (k0, 15360, .inl v_goes))]) [0, 1] rfl
        have hDc_3 := hD_b2.sub (ws' := [(h0, .inr (12, oX9 v_count (.ref h3) v_positionCount (.ref h4) (.ref h5) (.ref h6) (.ref h7) (.ref h8) v_stamp (.ref h9) v_stackCount v_width (.ref h10) (.ref h11) (.ref h1) (.ref h2) (.ref h12) (.ref h13))), (h1, .inl (k0, 15360, .inl v_goes))]) [0, 1] (by decide) rfl
        have hKc_3 := hK.sub (tys' := [(k0, .int)]) [0] rfl
        have hFc_3 := va_free (wc := [(h0, .inr (12, oX9 v_count (.ref h3) v_positionCount (.ref h4) (.ref h5) (.ref h6) (.ref h7) (.ref h8) v_stamp (.ref h9) v_stackCount v_width (.ref h10) (.ref h11) (.ref h1) (.ref h2) (.ref h12) (.ref h13))), (h1, .inl (k0, 15360, .inl v_goes))]) hD_b2 hS_b2 hA [0, 1] rfl
        refine va_calli (va_runV (As := [.int p1, .int l2_2]) (rest := []) ⟨hx, hb, hml, hown, ht⟩ (mt_X9_next l dC dI h0 h1 h3 h4 h5 h6 h7 h8 h9 h10 h11 h2 h12 h13 k0 p1 l2_2 v_count v_positionCount v_stamp v_stackCount v_width v_goes _ (w_b2.2 c_2) H_b2.size) (cwV 2 ht (goodV tw_1899 tw_1900 tw_1901 tw_248 gw_X9_next) rfl rfl rfl (by decide +kernel) ⟨Nat.le_of_ble_eq_true rfl, Nat.le_of_ble_eq_true rfl⟩) ⟨fun a U g mk q => by obtain ⟨q0, q1, qP, qK, qD⟩ := q; exact ⟨q0, q1, qP, va_K.moved (u := U) (U := U.calling g mk a) (Vm.Alike.refl U.vm) qK, qD⟩, va_recv hKc_3 hPc_3 (ci := 12) (q0 := 0) rfl rfl, fun U hU hW => ⟨rfl, by rw [hU], by rw [hU]; exact hPc_3, va_K.moved hW.alike hKc_3, hDc_3.weaken (fun _ _ _ _ => trivial)⟩⟩ rfl rfl hl_b2.1 rfl (lv_room (Nat.le_of_ble_eq_true rfl)) dX9_leadsToLive_13 ⟨Nat.le_of_ble_eq_true rfl, Nat.le_of_ble_eq_true rfl⟩) hS_b2 (fun q _ h => hFc_3 q h) hFc_3 (fun r_3 u_3 t_3 H_3 locs_3 ht_3 hvm_3 hw_3 hB_3 hz_3 hk_3 hS_3 => ?_)
        subst hw_3
        obtain ⟨w_3, hP1_3, hD1_3⟩ := hB_3
        rw [ht_3] at hP1_3
        obtain ⟨hP_3, hD_3⟩ := va_join (wr := [(h2, .inl (k1, 60, .inl (fun q9 => bz (v_live q9))))]) (w1 := [(h0, .inr (12, oX9 v_count (.ref h3) v_positionCount (.ref h4) (.ref h5) (.ref h6) (.ref h7) (.ref h8) v_stamp (.ref h9) v_stackCount v_width (.ref h10) (.ref h11) (.ref h1) (.ref h2) (.ref h12) (.ref h13))), (h1, .inl (k0, 15360, .inl v_goes))]) hP_b2 hD_b2 [0, 1] [2] rfl rfl (by decide) (by decide) hk_3 hFc_3 hP1_3 hD1_3
        have hP_3 := hP_3.sub (ws' := [(h0, .inr (12, oX9 v_count (.ref h3) v_positionCount (.ref h4) (.ref h5) (.ref h6) (.ref h7) (.ref h8) v_stamp (.ref h9) v_stackCount v_width (.ref h10) (.ref h11) (.ref h1) (.ref h2) (.ref h12) (.ref h13))), (h1, .inl (k0, 15360, .inl v_goes)), (h2, .inl (k1, 60, .inl (fun q9 => bz (v_live q9))))]) [1, 2, 0] rfl
        have hD_3 := hD_3.sub (ws' := [(h0, .inr (12, oX9 v_count (.ref h3) v_positionCount (.ref h4) (.ref h5) (.ref h6) (.ref h7) (.ref h8) v_stamp (.ref h9) v_stackCount v_width (.ref h10) (.ref h11) (.ref h1) (.ref h2) (.ref h12) (.ref h13))), (h1, .inl (k0, 15360, .inl v_goes)), (h2, .inl (k1, 60, .inl (fun q9 => bz (v_live q9))))]) [1, 2, 0] (by decide) rfl
        clear hPc_3 hDc_3 hKc_3 hFc_3 hP1_3 hD1_3 hk_3 hz_3
        refine lv_istore_n (lv' := [(3, .int r_3), (0, .ref h0), (1, .int p1), (2, .int l2_2)]) hx hb dX9_leadsToLive_16 rfl hl_b2 (by decide) rfl (fun ls_4 hl_4 => ?_)
        clear hl_b2
        refine lv_iload_n hx hb dX9_leadsToLive_17 rfl (lv_at hl_4 0 rfl) ?_
        have k_38 : ∀ (l2_38 : Int32), ∀ (H_b38 : Heap) (locs_b38 : List Loc) (ls_b38 : Array Slot), w_X9_leadsToLive_38 Q (w_X9_leadsToLive_2 p1 v_count v_width v_goes v_live Q n_2) l2_38 → va_P (dC, dI) vwCl [(h0, .inr (12, oX9 v_count (.ref h3) v_positionCount (.ref h4) (.ref h5) (.ref h6) (.ref h7) (.ref h8) v_stamp (.ref h9) v_stackCount v_width (.ref h10) (.ref h11) (.ref h1) (.ref h2) (.ref h12) (.ref h13))), (h1, .inl (k0, 15360, .inl v_goes)), (h2, .inl (k1, 60, .inl (fun q9 => bz (v_live q9))))] H_b38 → va_D A [(h0, .inr (12, oX9 v_count (.ref h3) v_positionCount (.ref h4) (.ref h5) (.ref h6) (.ref h7) (.ref h8) v_stamp (.ref h9) v_stackCount v_width (.ref h10) (.ref h11) (.ref h1) (.ref h2) (.ref h12) (.ref h13))), (h1, .inl (k0, 15360, .inl v_goes)), (h2, .inl (k1, 60, .inl (fun q9 => bz (v_live q9))))] → va_S A s.heap H_b38 locs_b38 → lv_has ls_b38 4 [(0, .ref h0), (1, .int p1), (2, .int l2_38)] → W p l e ({ frames := 1, cells := 0, slots := 0, locals := 23 } : Room) s m ([.ref h0, .int p1]).toArray below meth c H_b38 locs_b38 0 0 QQ (F0 m 38 ls_b38 []) := by
          intro l2_38 H_b38 locs_b38 ls_b38 w_b38 hP_b38 hD_b38 hS_b38 hl_b38
          unfold w_X9_leadsToLive_38 at w_b38
          obtain ⟨x_5, ex_5⟩ : ∃ y : Int32, y = l2_38 + 1 := ⟨_, rfl⟩
          refine lv_iinc (v := x_5) (lv' := [(2, .int x_5), (0, .ref h0), (1, .int p1)]) hx hb dX9_leadsToLive_38 hl_b38 (k := 2) rfl ex_5.symm (by decide) rfl (fun ls_5 hl_5 => ?_)
          refine lv_goto (tgt := 2) hx hb dX9_leadsToLive_41 (by decide) ?_
          exact ih_2 x_5 _ _ _ (w_b38 x_5 ex_5) hP_b38 hD_b38 hS_b38 (lv_sub hl_5 [1, 2, 0] rfl)
        refine lv_if_lt (tgt := 38) hx hb dX9_leadsToLive_18 (by decide) (fun c_6 => ?_) (fun c_6 => ?_)
        · exact k_38 l2_2 _ _ _ (w_3.1 c_6) hP_3 hD_3 hS_3 (lv_sub hl_4 [1, 2, 3] rfl)
        · refine lv_iload_n hx hb dX9_leadsToLive_21 rfl (lv_at hl_4 0 rfl) ?_
          refine lv_bipush (v := 60) hx hb dX9_leadsToLive_22 (by decide) ?_
          refine lv_icmp_ge (tgt := 38) hx hb dX9_leadsToLive_24 (by decide) (fun c_7 => ?_) (fun c_7 => ?_)
          · exact k_38 l2_2 _ _ _ ((w_3.2 c_6).1 c_7) hP_3 hD_3 hS_3 (lv_sub hl_4 [1, 2, 3] rfl)
          · refine lv_aload_n hx hb dX9_leadsToLive_27 rfl (lv_at hl_4 1 rfl) ?_
            refine va_get (D := (dC, dI)) (ci := 12) (v := .ref h2) (C := RX9) (T := TX9) (N := 18) hx hb ht inX9 hown hK hP_3 0 rfl rfl 15 (by decide) (ht _ tw_717) (fun _ h9 => h9) rfl dX9_leadsToLive_28 ?_
            refine lv_iload_n hx hb dX9_leadsToLive_31 rfl (lv_at hl_4 0 rfl) ?_
            refine va_zald hx hb hK hP_3 2 1 rfl rfl (i := r_3) ((w_3.2 c_6).2 c_7).1 dX9_leadsToLive_32 ?_
            refine lv_topi (fun x_8 ex_8 => ?_)
            have ex_8 : x_8 = bz (v_live r_3.toNatClampNeg) := ex_8
            refine lv_if_eq (tgt := 38) hx hb dX9_leadsToLive_33 (by decide) (fun c_9 => ?_) (fun c_9 => ?_)
            · exact k_38 l2_2 _ _ _ (((((w_3.2 c_6).2 c_7).2) x_8 ex_8).1 c_9) hP_3 hD_3 hS_3 (lv_sub hl_4 [1, 2, 3] rfl)
            · refine lv_iconst (v := 1) hx hb dX9_leadsToLive_36 (by decide) ?_
              rw [hQQ]
              exact W.zret (v := 1) hx hb hr rfl (fun t9 ht9 hW9 => ⟨⟨1, 1, rfl, rfl, ⟨((((w_3.2 c_6).2 c_7).2) x_8 ex_8).2 c_9, by rw [ht9]; exact hP_3, hD_3⟩⟩, hS_3.F ht9⟩) hS_3.2.2 dX9_leadsToLive_37
  obtain ⟨n_10, w_10⟩ := w
  exact k_2 n_10 0 _ _ _ w_10 hP hD hS (lv_sub hl_1 [1, 2, 0] rfl)
def w_X9_staysTogether_17B (p1 : Int32) (p2 : Int32) (v_count : Int32) (v_width : Int32) (v_goes : Nat → Int32) (v_groups : Nat → Int32) (Q : Int32 → Prop) (K17 : Int32 → Prop) (l3_17 : Int32) : Prop :=
  ((v_width ≤ l3_17) → Q 1) ∧ ((¬ v_width ≤ l3_17) → w_X9_next p1 l3_17 v_count v_width v_goes (fun r_6 => w_X9_groupOf r_6 v_groups (fun r_7 => w_X9_next p2 l3_17 v_count v_width v_goes (fun r_8 => w_X9_groupOf r_8 v_groups (fun r_9 => ((r_7 = r_9) → ∀ x_11 : Int32, x_11 = l3_17 + 1 → K17 x_11) ∧ ((¬ r_7 = r_9) → Q 0))))))
def w_X9_staysTogether_17 (p1 : Int32) (p2 : Int32) (v_count : Int32) (v_width : Int32) (v_goes : Nat → Int32) (v_groups : Nat → Int32) (Q : Int32 → Prop) : Nat → Int32 → Prop
  | 0, _ => False
  | n9 + 1, l3_17 => w_X9_staysTogether_17B p1 p2 v_count v_width v_goes v_groups Q (w_X9_staysTogether_17 p1 p2 v_count v_width v_goes v_groups Q n9) l3_17
def w_X9_staysTogether (p1 : Int32) (p2 : Int32) (v_count : Int32) (v_width : Int32) (v_goes : Nat → Int32) (v_groups : Nat → Int32) (Q : Int32 → Prop) : Prop :=
  w_X9_groupOf p1 v_groups (fun r_1 => w_X9_groupOf p2 v_groups (fun r_2 => ((r_1 = r_2) → ∃ k9 : Nat, w_X9_staysTogether_17 p1 p2 v_count v_width v_goes v_groups Q k9 0) ∧ ((¬ r_1 = r_2) → Q 0)))
set_option maxHeartbeats 4000000 in
set_option maxRecDepth 100000 in
theorem mt_X9_staysTogether (l : Launch) (dC : Nat → ClassId) (dI : Nat → Nat → Nat) (h0 h1 h2 h3 h4 h5 h6 h7 h8 h9 h10 h11 h12 h13 : Nat) (k0 k1 : ClassId) (p1 : Int32) (p2 : Int32) (v_count : Int32) (v_positionCount : Int32) (v_stamp : Int32) (v_stackCount : Int32) (v_width : Int32) (v_goes : Nat → Int32) (v_groups : Nat → Int32) (Q : Int32 → Prop) (w : w_X9_staysTogether p1 p2 v_count v_width v_goes v_groups Q) (sz : Nat) : Met l yX9_staysTogether (WS yX9_staysTogether cX9_staysTogether 4 (some (.boolean))) ({ frames := 1, cells := 0, slots := 0, locals := 23 } : Room) (va_Pc [.ref h0, .int p1, .int p2] (fun U => U.heap.size = sz ∧ va_P (dC, dI) vwCl [(h0, .inr (12, oX9 v_count (.ref h3) v_positionCount (.ref h4) (.ref h5) (.ref h6) (.ref h7) (.ref h8) v_stamp (.ref h9) v_stackCount v_width (.ref h10) (.ref h11) (.ref h1) (.ref h12) (.ref h2) (.ref h13))), (h1, .inl (k0, 15360, .inl v_goes)), (h2, .inl (k1, 60, .inl v_groups))] U.heap ∧ va_K (dC, dI) vwCl [(k0, .int), (k1, .int)] U ∧ va_D (fun _ => True) [(h0, .inr (12, oX9 v_count (.ref h3) v_positionCount (.ref h4) (.ref h5) (.ref h6) (.ref h7) (.ref h8) v_stamp (.ref h9) v_stackCount v_width (.ref h10) (.ref h11) (.ref h1) (.ref h12) (.ref h2) (.ref h13))), (h1, .inl (k0, 15360, .inl v_goes)), (h2, .inl (k1, 60, .inl v_groups))])) (va_Qi (fun (r u : Int32) => r = u) (fun (u : Int32) (t : State) => (Q u) ∧ va_P (dC, dI) vwCl [(h0, .inr (12, oX9 v_count (.ref h3) v_positionCount (.ref h4) (.ref h5) (.ref h6) (.ref h7) (.ref h8) v_stamp (.ref h9) v_stackCount v_width (.ref h10) (.ref h11) (.ref h1) (.ref h12) (.ref h2) (.ref h13))), (h1, .inl (k0, 15360, .inl v_goes)), (h2, .inl (k1, 60, .inl v_groups))] t.heap ∧ va_D (va_A [(h0, .inr (12, oX9 v_count (.ref h3) v_positionCount (.ref h4) (.ref h5) (.ref h6) (.ref h7) (.ref h8) v_stamp (.ref h9) v_stackCount v_width (.ref h10) (.ref h11) (.ref h1) (.ref h12) (.ref h2) (.ref h13))), (h1, .inl (k0, 15360, .inl v_goes)), (h2, .inl (k1, 60, .inl v_groups))] sz) [(h0, .inr (12, oX9 v_count (.ref h3) v_positionCount (.ref h4) (.ref h5) (.ref h6) (.ref h7) (.ref h8) v_stamp (.ref h9) v_stackCount v_width (.ref h10) (.ref h11) (.ref h1) (.ref h12) (.ref h2) (.ref h13))), (h1, .inl (k0, 15360, .inl v_goes)), (h2, .inl (k1, 60, .inl v_groups))]) (va_A [(h0, .inr (12, oX9 v_count (.ref h3) v_positionCount (.ref h4) (.ref h5) (.ref h6) (.ref h7) (.ref h8) v_stamp (.ref h9) v_stackCount v_width (.ref h10) (.ref h11) (.ref h1) (.ref h12) (.ref h2) (.ref h13))), (h1, .inl (k0, 15360, .inl v_goes)), (h2, .inl (k1, 60, .inl v_groups))] sz)) 0 0 (va_A [(h0, .inr (12, oX9 v_count (.ref h3) v_positionCount (.ref h4) (.ref h5) (.ref h6) (.ref h7) (.ref h8) v_stamp (.ref h9) v_stackCount v_width (.ref h10) (.ref h11) (.ref h1) (.ref h12) (.ref h2) (.ref h13))), (h1, .inl (k0, 15360, .inl v_goes)), (h2, .inl (k1, 60, .inl v_groups))] sz) := by
  refine Met.ofW (cc := cX9_staysTogether) (maxL := 4) (ret := (some (.boolean))) (by decide) rfl ?_
  intro p e s m args below meth c s₁ B hml hv
  obtain ⟨rfl, hsz, hP, hK, hD0⟩ := hv
  have hx := B.exec
  have hb := B.bytes
  have hr := B.returns
  have hts := atoms_spec (ws := WS yX9_staysTogether cX9_staysTogether 4 (some (.boolean))) B.pre
  have ht : ∀ w ∈ TW, w.before _ s = true := fun w h => hts w (List.mem_cons_of_mem _ h)
  have hown : s.vm.findClass "PatternWorkshop$Table" = some m.cls := findClass_of_methodNamed B.named
  have hlocks := B.notSynchronized
  subst hsz
  have hD := hD0.self (sz := s.heap.size)
  generalize hAe : va_A [(h0, .inr (12, oX9 v_count (.ref h3) v_positionCount (.ref h4) (.ref h5) (.ref h6) (.ref h7) (.ref h8) v_stamp (.ref h9) v_stackCount v_width (.ref h10) (.ref h11) (.ref h1) (.ref h12) (.ref h2) (.ref h13))), (h1, .inl (k0, 15360, .inl v_goes)), (h2, .inl (k1, 60, .inl v_groups))] s.heap.size = A at hD ⊢
  have hA : ∀ q : Nat, s.heap.size ≤ q → A q := fun q h => by rw [← hAe]; exact Or.inr h
  have hS : va_S A s.heap s.heap [] := va_S.rf
  have hP : va_P (dC, dI) vwCl [(h0, .inr (12, oX9 v_count (.ref h3) v_positionCount (.ref h4) (.ref h5) (.ref h6) (.ref h7) (.ref h8) v_stamp (.ref h9) v_stackCount v_width (.ref h10) (.ref h11) (.ref h1) (.ref h12) (.ref h2) (.ref h13))), (h1, .inl (k0, 15360, .inl v_goes)), (h2, .inl (k1, 60, .inl v_groups))] s.heap := hP
  have hl := lv_entry ([.ref h0, .int p1, .int p2]) (n := 4) (Nat.le_of_ble_eq_true rfl)
  rw [lg_entry_eq]
  generalize (lg_sl ([.ref h0, .int p1, .int p2]) ++ List.replicate (4 - (lg_sl ([.ref h0, .int p1, .int p2])).length) Slot.unset).toArray = ls at hl ⊢
  have hl : lv_has ls 4 [(0, .ref h0), (1, .int p1), (2, .int p2)] := hl
  clear hD0
  obtain ⟨QQ, hQQ⟩ : ∃ QQ, QQ = MQ below (va_Qi (fun (r u : Int32) => r = u) (fun (u : Int32) (t : State) => (Q u) ∧ va_P (dC, dI) vwCl [(h0, .inr (12, oX9 v_count (.ref h3) v_positionCount (.ref h4) (.ref h5) (.ref h6) (.ref h7) (.ref h8) v_stamp (.ref h9) v_stackCount v_width (.ref h10) (.ref h11) (.ref h1) (.ref h12) (.ref h2) (.ref h13))), (h1, .inl (k0, 15360, .inl v_goes)), (h2, .inl (k1, 60, .inl v_groups))] t.heap ∧ va_D A [(h0, .inr (12, oX9 v_count (.ref h3) v_positionCount (.ref h4) (.ref h5) (.ref h6) (.ref h7) (.ref h8) v_stamp (.ref h9) v_stackCount v_width (.ref h10) (.ref h11) (.ref h1) (.ref h12) (.ref h2) (.ref h13))), (h1, .inl (k0, 15360, .inl v_goes)), (h2, .inl (k1, 60, .inl v_groups))]) A) ([.ref h0, .int p1, .int p2]).toArray s 0 0 A := ⟨_, rfl⟩
  show W p l e ({ frames := 1, cells := 0, slots := 0, locals := 23 } : Room) s m ([.ref h0, .int p1, .int p2]).toArray below meth c s.heap [] 0 0 (MQ below (va_Qi (fun (r u : Int32) => r = u) (fun (u : Int32) (t : State) => (Q u) ∧ va_P (dC, dI) vwCl [(h0, .inr (12, oX9 v_count (.ref h3) v_positionCount (.ref h4) (.ref h5) (.ref h6) (.ref h7) (.ref h8) v_stamp (.ref h9) v_stackCount v_width (.ref h10) (.ref h11) (.ref h1) (.ref h12) (.ref h2) (.ref h13))), (h1, .inl (k0, 15360, .inl v_goes)), (h2, .inl (k1, 60, .inl v_groups))] t.heap ∧ va_D A [(h0, .inr (12, oX9 v_count (.ref h3) v_positionCount (.ref h4) (.ref h5) (.ref h6) (.ref h7) (.ref h8) v_stamp (.ref h9) v_stackCount v_width (.ref h10) (.ref h11) (.ref h1) (.ref h12) (.ref h2) (.ref h13))), (h1, .inl (k0, 15360, .inl v_goes)), (h2, .inl (k1, 60, .inl v_groups))]) A) ([.ref h0, .int p1, .int p2]).toArray s 0 0 A) (F0 m 0 ls [])
  rw [← hQQ]
  unfold w_X9_staysTogether at w
  refine lv_aload_n hx hb dX9_staysTogether_0 rfl (lv_at hl 0 rfl) ?_
  refine lv_iload_n hx hb dX9_staysTogether_1 rfl (lv_at hl 1 rfl) ?_
  have hPc_1 := hP.sub (ws' := [(h0, .inr (12, oX9 v_count (.ref h3) v_positionCount (.ref h4) (.ref h5) (.ref h6) (.ref h7) (.ref h8) v_stamp (.ref h9) v_stackCount v_width (.ref h10) (.ref h11) (.ref h1) (.ref h12) (.ref h2) (.ref h13))), (h2, .inl (k1, 60, .inl v_groups))]) [0, 2] rfl
  have hDc_1 := hD.sub (ws' := [(h0, .inr (12, oX9 v_count (.ref h3) v_positionCount (.ref h4) (.ref h5) (.ref h6) (.ref h7) (.ref h8) v_stamp (.ref h9) v_stackCount v_width (.ref h10) (.ref h11) (.ref h1) (.ref h12) (.ref h2) (.ref h13))), (h2, .inl (k1, 60, .inl v_groups))]) [0, 2] (by decide) rfl
  have hKc_1 := hK.sub (tys' := [(k1, .int)]) [1] rfl
  have hFc_1 := va_free (wc := [(h0, .inr (12, oX9 v_count (.ref h3) v_positionCount (.ref h4) (.ref h5) (.ref h6) (.ref h7) (.ref h8) v_stamp (.ref h9) v_stackCount v_width (.ref h10) (.ref h11) (.ref h1) (.ref h12) (.ref h2) (.ref h13))), (h2, .inl (k1, 60, .inl v_groups))]) hD hS hA [0, 2] rfl
  refine va_calli (va_runV (As := [.int p1]) (rest := []) ⟨hx, hb, hml, hown, ht⟩ (mt_X9_groupOf l dC dI h0 h2 h3 h4 h5 h6 h7 h8 h9 h10 h11 h1 h12 h13 k1 p1 v_count v_positionCount v_stamp v_stackCount v_width v_groups _ w s.heap.size) (cwV 1 ht (goodV tw_1932 tw_1934 tw_141 tw_248 gw_X9_groupOf) rfl rfl rfl (by decide +kernel) ⟨Nat.le_of_ble_eq_true rfl, Nat.le_of_ble_eq_true rfl⟩) ⟨fun a U g mk q => by obtain ⟨q0, q1, qP, qK, qD⟩ := q; exact ⟨q0, q1, qP, va_K.moved (u := U) (U := U.calling g mk a) (Vm.Alike.refl U.vm) qK, qD⟩, va_recv hKc_1 hPc_1 (ci := 12) (q0 := 0) rfl rfl, fun U hU hW => ⟨rfl, by rw [hU], by rw [hU]; exact hPc_1, va_K.moved hW.alike hKc_1, hDc_1.weaken (fun _ _ _ _ => trivial)⟩⟩ rfl rfl hl.1 rfl (lv_room (Nat.le_of_ble_eq_true rfl)) dX9_staysTogether_2 ⟨Nat.le_of_ble_eq_true rfl, Nat.le_of_ble_eq_true rfl⟩) hS (fun q _ h => hFc_1 q h) hFc_1 (fun r_1 u_1 t_1 H_1 locs_1 ht_1 hvm_1 hw_1 hB_1 hz_1 hk_1 hS_1 => ?_)
  subst hw_1
  obtain ⟨w_1, hP1_1, hD1_1⟩ := hB_1
  rw [ht_1] at hP1_1
  obtain ⟨hP_1, hD_1⟩ := va_join (wr := [(h1, .inl (k0, 15360, .inl v_goes))]) (w1 := [(h0, .inr (12, oX9 v_count (.ref h3) v_positionCount (.ref h4) (.ref h5) (.ref h6) (.ref h7) (.ref h8) v_stamp (.ref h9) v_stackCount v_width (.ref h10) (.ref h11) (.ref h1) (.ref h12) (.ref h2) (.ref h13))), (h2, .inl (k1, 60, .inl v_groups))]) hP hD [0, 2] [1] rfl rfl (by decide) (by decide) hk_1 hFc_1 hP1_1 hD1_1
  have hP_1 := hP_1.sub (ws' := [(h0, .inr (12, oX9 v_count (.ref h3) v_positionCount (.ref h4) (.ref h5) (.ref h6) (.ref h7) (.ref h8) v_stamp (.ref h9) v_stackCount v_width (.ref h10) (.ref h11) (.ref h1) (.ref h12) (.ref h2) (.ref h13))), (h1, .inl (k0, 15360, .inl v_goes)), (h2, .inl (k1, 60, .inl v_groups))]) [1, 0, 2] rfl
  have hD_1 := hD_1.sub (ws' := [(h0, .inr (12, oX9 v_count (.ref h3) v_positionCount (.ref h4) (.ref h5) (.ref h6) (.ref h7) (.ref h8) v_stamp (.ref h9) v_stackCount v_width (.ref h10) (.ref h11) (.ref h1) (.ref h12) (.ref h2) (.ref h13))), (h1, .inl (k0, 15360, .inl v_goes)), (h2, .inl (k1, 60, .inl v_groups))]) [1, 0, 2] (by decide) rfl
  clear hPc_1 hDc_1 hKc_1 hFc_1 hP1_1 hD1_1 hk_1 hz_1
  refine lv_aload_n hx hb dX9_staysTogether_5 rfl (lv_at hl 0 rfl) ?_
  refine lv_iload_n hx hb dX9_staysTogether_6 rfl (lv_at hl 2 rfl) ?_
  have hPc_2 := hP_1.sub (ws' := [(h0, .inr (12, oX9 v_count (.ref h3) v_positionCount (.ref h4) (.ref h5) (.ref h6) (.ref h7) (.ref h8) v_stamp (.ref h9) v_stackCount v_width (.ref h10) (.ref h11) (.ref h1) (.ref h12) (.ref h2) (.ref h13))), (h2, .inl (k1, 60, .inl v_groups))]) [0, 2] rfl
  have hDc_2 := hD_1.sub (ws' := [(h0, .inr (12, oX9 v_count (.ref h3) v_positionCount (.ref h4) (.ref h5) (.ref h6) (.ref h7) (.ref h8) v_stamp (.ref h9) v_stackCount v_width (.ref h10) (.ref h11) (.ref h1) (.ref h12) (.ref h2) (.ref h13))), (h2, .inl (k1, 60, .inl v_groups))]) [0, 2] (by decide) rfl
  have hKc_2 := hK.sub (tys' := [(k1, .int)]) [1] rfl
  have hFc_2 := va_free (wc := [(h0, .inr (12, oX9 v_count (.ref h3) v_positionCount (.ref h4) (.ref h5) (.ref h6) (.ref h7) (.ref h8) v_stamp (.ref h9) v_stackCount v_width (.ref h10) (.ref h11) (.ref h1) (.ref h12) (.ref h2) (.ref h13))), (h2, .inl (k1, 60, .inl v_groups))]) hD_1 hS_1 hA [0, 2] rfl
  refine va_calli (va_runV (As := [.int p2]) (rest := [.int r_1]) ⟨hx, hb, hml, hown, ht⟩ (mt_X9_groupOf l dC dI h0 h2 h3 h4 h5 h6 h7 h8 h9 h10 h11 h1 h12 h13 k1 p2 v_count v_positionCount v_stamp v_stackCount v_width v_groups _ w_1 H_1.size) (cwV 1 ht (goodV tw_1932 tw_1934 tw_141 tw_248 gw_X9_groupOf) rfl rfl rfl (by decide +kernel) ⟨Nat.le_of_ble_eq_true rfl, Nat.le_of_ble_eq_true rfl⟩) ⟨fun a U g mk q => by obtain ⟨q0, q1, qP, qK, qD⟩ := q; exact ⟨q0, q1, qP, va_K.moved (u := U) (U := U.calling g mk a) (Vm.Alike.refl U.vm) qK, qD⟩, va_recv hKc_2 hPc_2 (ci := 12) (q0 := 0) rfl rfl, fun U hU hW => ⟨rfl, by rw [hU], by rw [hU]; exact hPc_2, va_K.moved hW.alike hKc_2, hDc_2.weaken (fun _ _ _ _ => trivial)⟩⟩ rfl rfl hl.1 rfl (lv_room (Nat.le_of_ble_eq_true rfl)) dX9_staysTogether_7 ⟨Nat.le_of_ble_eq_true rfl, Nat.le_of_ble_eq_true rfl⟩) hS_1 (fun q _ h => hFc_2 q h) hFc_2 (fun r_2 u_2 t_2 H_2 locs_2 ht_2 hvm_2 hw_2 hB_2 hz_2 hk_2 hS_2 => ?_)
  subst hw_2
  obtain ⟨w_2, hP1_2, hD1_2⟩ := hB_2
  rw [ht_2] at hP1_2
  obtain ⟨hP_2, hD_2⟩ := va_join (wr := [(h1, .inl (k0, 15360, .inl v_goes))]) (w1 := [(h0, .inr (12, oX9 v_count (.ref h3) v_positionCount (.ref h4) (.ref h5) (.ref h6) (.ref h7) (.ref h8) v_stamp (.ref h9) v_stackCount v_width (.ref h10) (.ref h11) (.ref h1) (.ref h12) (.ref h2) (.ref h13))), (h2, .inl (k1, 60, .inl v_groups))]) hP_1 hD_1 [0, 2] [1] rfl rfl (by decide) (by decide) hk_2 hFc_2 hP1_2 hD1_2
  have hP_2 := hP_2.sub (ws' := [(h0, .inr (12, oX9 v_count (.ref h3) v_positionCount (.ref h4) (.ref h5) (.ref h6) (.ref h7) (.ref h8) v_stamp (.ref h9) v_stackCount v_width (.ref h10) (.ref h11) (.ref h1) (.ref h12) (.ref h2) (.ref h13))), (h1, .inl (k0, 15360, .inl v_goes)), (h2, .inl (k1, 60, .inl v_groups))]) [1, 0, 2] rfl
  have hD_2 := hD_2.sub (ws' := [(h0, .inr (12, oX9 v_count (.ref h3) v_positionCount (.ref h4) (.ref h5) (.ref h6) (.ref h7) (.ref h8) v_stamp (.ref h9) v_stackCount v_width (.ref h10) (.ref h11) (.ref h1) (.ref h12) (.ref h2) (.ref h13))), (h1, .inl (k0, 15360, .inl v_goes)), (h2, .inl (k1, 60, .inl v_groups))]) [1, 0, 2] (by decide) rfl
  clear hPc_2 hDc_2 hKc_2 hFc_2 hP1_2 hD1_2 hk_2 hz_2
  refine lv_icmp_eq (tgt := 15) hx hb dX9_staysTogether_10 (by decide) (fun c_3 => ?_) (fun c_3 => ?_)
  · refine lv_iconst (v := 0) hx hb dX9_staysTogether_15 (by decide) ?_
    refine lv_istore_n (lv' := [(3, .int 0), (0, .ref h0), (1, .int p1), (2, .int p2)]) hx hb dX9_staysTogether_16 rfl hl (by decide) rfl (fun ls_4 hl_4 => ?_)
    clear hl
    have k_17 : ∀ n_17 : Nat, ∀ (l3_17 : Int32), ∀ (H_b17 : Heap) (locs_b17 : List Loc) (ls_b17 : Array Slot), w_X9_staysTogether_17 p1 p2 v_count v_width v_goes v_groups Q n_17 l3_17 → va_P (dC, dI) vwCl [(h0, .inr (12, oX9 v_count (.ref h3) v_positionCount (.ref h4) (.ref h5) (.ref h6) (.ref h7) (.ref h8) v_stamp (.ref h9) v_stackCount v_width (.ref h10) (.ref h11) (.ref h1) (.ref h12) (.ref h2) (.ref h13))), (h1, .inl (k0, 15360, .inl v_goes)), (h2, .inl (k1, 60, .inl v_groups))] H_b17 → va_D A [(h0, .inr (12, oX9 v_count (.ref h3) v_positionCount (.ref h4) (.ref h5) (.ref h6) (.ref h7) (.ref h8) v_stamp (.ref h9) v_stackCount v_width (.ref h10) (.ref h11) (.ref h1) (.ref h12) (.ref h2) (.ref h13))), (h1, .inl (k0, 15360, .inl v_goes)), (h2, .inl (k1, 60, .inl v_groups))] → va_S A s.heap H_b17 locs_b17 → lv_has ls_b17 4 [(0, .ref h0), (1, .int p1), (2, .int p2), (3, .int l3_17)] → W p l e ({ frames := 1, cells := 0, slots := 0, locals := 23 } : Room) s m ([.ref h0, .int p1, .int p2]).toArray below meth c H_b17 locs_b17 0 0 QQ (F0 m 17 ls_b17 []) := by
      intro n_17
      induction n_17 with
      | zero =>
        intro l3_17 H_b17 locs_b17 ls_b17 w_b17 hP_b17 hD_b17 hS_b17 hl_b17
        exact False.elim (by unfold w_X9_staysTogether_17 at w_b17; exact w_b17)
      | succ n_17 ih_17 =>
        intro l3_17 H_b17 locs_b17 ls_b17 w_b17 hP_b17 hD_b17 hS_b17 hl_b17
        unfold w_X9_staysTogether_17 at w_b17
        unfold w_X9_staysTogether_17B at w_b17
        refine lv_iload_n hx hb dX9_staysTogether_17 rfl (lv_at hl_b17 3 rfl) ?_
        refine lv_aload_n hx hb dX9_staysTogether_18 rfl (lv_at hl_b17 0 rfl) ?_
        refine va_get (D := (dC, dI)) (ci := 12) (v := .int v_width) (C := RX9) (T := TX9) (N := 18) hx hb ht inX9 hown hK hP_b17 0 rfl rfl 11 (by decide) (ht _ tw_713) (fun _ h9 => h9) rfl dX9_staysTogether_19 ?_
        refine lv_icmp_ge (tgt := 56) hx hb dX9_staysTogether_22 (by decide) (fun c_5 => ?_) (fun c_5 => ?_)
        · refine lv_iconst (v := 1) hx hb dX9_staysTogether_56 (by decide) ?_
          rw [hQQ]
          exact W.zret (v := 1) hx hb hr rfl (fun t9 ht9 hW9 => ⟨⟨1, 1, rfl, rfl, ⟨w_b17.1 c_5, by rw [ht9]; exact hP_b17, hD_b17⟩⟩, hS_b17.F ht9⟩) hS_b17.2.2 dX9_staysTogether_57
        · refine lv_aload_n hx hb dX9_staysTogether_25 rfl (lv_at hl_b17 0 rfl) ?_
          refine lv_aload_n hx hb dX9_staysTogether_26 rfl (lv_at hl_b17 0 rfl) ?_
          refine lv_iload_n hx hb dX9_staysTogether_27 rfl (lv_at hl_b17 1 rfl) ?_
          refine lv_iload_n hx hb dX9_staysTogether_28 rfl (lv_at hl_b17 3 rfl) ?_
          have hPc_6 := hP_b17.sub (ws' := [(h0, .inr (12, oX9 v_count (.ref h3) v_positionCount (.ref h4) (.ref h5) (.ref h6) (.ref h7) (.ref h8) v_stamp (.ref h9) v_stackCount v_width (.ref h10) (.ref h11) (.ref h1) (.ref h12) (.ref h2) (.ref h13))), (h1, .inl (k0, 15360, .inl v_goes))]) [0, 1] rfl
          have hDc_6 := hD_b17.sub (ws' := [(h0, .inr (12, oX9 v_count (.ref h3) v_positionCount (.ref h4) (.ref h5) (.ref h6) (.ref h7) (.ref h8) v_stamp (.ref h9) v_stackCount v_width (.ref h10) (.ref h11) (.ref h1) (.ref h12) (.ref h2) (.ref h13))), (h1, .inl (k0, 15360, .inl v_goes))]) [0, 1] (by decide) rfl
          have hKc_6 := hK.sub (tys' := [(k0, .int)]) [0] rfl
          have hFc_6 := va_free (wc := [(h0, .inr (12, oX9 v_count (.ref h3) v_positionCount (.ref h4) (.ref h5) (.ref h6) (.ref h7) (.ref h8) v_stamp (.ref h9) v_stackCount v_width (.ref h10) (.ref h11) (.ref h1) (.ref h12) (.ref h2) (.ref h13))), (h1, .inl (k0, 15360, .inl v_goes))]) hD_b17 hS_b17 hA [0, 1] rfl
          refine va_calli (va_runV (As := [.int p1, .int l3_17]) (rest := [.ref h0]) ⟨hx, hb, hml, hown, ht⟩ (mt_X9_next l dC dI h0 h1 h3 h4 h5 h6 h7 h8 h9 h10 h11 h12 h2 h13 k0 p1 l3_17 v_count v_positionCount v_stamp v_stackCount v_width v_goes _ (w_b17.2 c_5) H_b17.size) (cwV 2 ht (goodV tw_1899 tw_1900 tw_1901 tw_248 gw_X9_next) rfl rfl rfl (by decide +kernel) ⟨Nat.le_of_ble_eq_true rfl, Nat.le_of_ble_eq_true rfl⟩) ⟨fun a U g mk q => by obtain ⟨q0, q1, qP, qK, qD⟩ := q; exact ⟨q0, q1, qP, va_K.moved (u := U) (U := U.calling g mk a) (Vm.Alike.refl U.vm) qK, qD⟩, va_recv hKc_6 hPc_6 (ci := 12) (q0 := 0) rfl rfl, fun U hU hW => ⟨rfl, by rw [hU], by rw [hU]; exact hPc_6, va_K.moved hW.alike hKc_6, hDc_6.weaken (fun _ _ _ _ => trivial)⟩⟩ rfl rfl hl_b17.1 rfl (lv_room (Nat.le_of_ble_eq_true rfl)) dX9_staysTogether_29 ⟨Nat.le_of_ble_eq_true rfl, Nat.le_of_ble_eq_true rfl⟩) hS_b17 (fun q _ h => hFc_6 q h) hFc_6 (fun r_6 u_6 t_6 H_6 locs_6 ht_6 hvm_6 hw_6 hB_6 hz_6 hk_6 hS_6 => ?_)
          subst hw_6
          obtain ⟨w_6, hP1_6, hD1_6⟩ := hB_6
          rw [ht_6] at hP1_6
          obtain ⟨hP_6, hD_6⟩ := va_join (wr := [(h2, .inl (k1, 60, .inl v_groups))]) (w1 := [(h0, .inr (12, oX9 v_count (.ref h3) v_positionCount (.ref h4) (.ref h5) (.ref h6) (.ref h7) (.ref h8) v_stamp (.ref h9) v_stackCount v_width (.ref h10) (.ref h11) (.ref h1) (.ref h12) (.ref h2) (.ref h13))), (h1, .inl (k0, 15360, .inl v_goes))]) hP_b17 hD_b17 [0, 1] [2] rfl rfl (by decide) (by decide) hk_6 hFc_6 hP1_6 hD1_6
          have hP_6 := hP_6.sub (ws' := [(h0, .inr (12, oX9 v_count (.ref h3) v_positionCount (.ref h4) (.ref h5) (.ref h6) (.ref h7) (.ref h8) v_stamp (.ref h9) v_stackCount v_width (.ref h10) (.ref h11) (.ref h1) (.ref h12) (.ref h2) (.ref h13))), (h1, .inl (k0, 15360, .inl v_goes)), (h2, .inl (k1, 60, .inl v_groups))]) [1, 2, 0] rfl
          have hD_6 := hD_6.sub (ws' := [(h0, .inr (12, oX9 v_count (.ref h3) v_positionCount (.ref h4) (.ref h5) (.ref h6) (.ref h7) (.ref h8) v_stamp (.ref h9) v_stackCount v_width (.ref h10) (.ref h11) (.ref h1) (.ref h12) (.ref h2) (.ref h13))), (h1, .inl (k0, 15360, .inl v_goes)), (h2, .inl (k1, 60, .inl v_groups))]) [1, 2, 0] (by decide) rfl
          clear hPc_6 hDc_6 hKc_6 hFc_6 hP1_6 hD1_6 hk_6 hz_6
          have hPc_7 := hP_6.sub (ws' := [(h0, .inr (12, oX9 v_count (.ref h3) v_positionCount (.ref h4) (.ref h5) (.ref h6) (.ref h7) (.ref h8) v_stamp (.ref h9) v_stackCount v_width (.ref h10) (.ref h11) (.ref h1) (.ref h12) (.ref h2) (.ref h13))), (h2, .inl (k1, 60, .inl v_groups))]) [0, 2] rfl
          have hDc_7 := hD_6.sub (ws' := [(h0, .inr (12, oX9 v_count (.ref h3) v_positionCount (.ref h4) (.ref h5) (.ref h6) (.ref h7) (.ref h8) v_stamp (.ref h9) v_stackCount v_width (.ref h10) (.ref h11) (.ref h1) (.ref h12) (.ref h2) (.ref h13))), (h2, .inl (k1, 60, .inl v_groups))]) [0, 2] (by decide) rfl
          have hKc_7 := hK.sub (tys' := [(k1, .int)]) [1] rfl
          have hFc_7 := va_free (wc := [(h0, .inr (12, oX9 v_count (.ref h3) v_positionCount (.ref h4) (.ref h5) (.ref h6) (.ref h7) (.ref h8) v_stamp (.ref h9) v_stackCount v_width (.ref h10) (.ref h11) (.ref h1) (.ref h12) (.ref h2) (.ref h13))), (h2, .inl (k1, 60, .inl v_groups))]) hD_6 hS_6 hA [0, 2] rfl
          refine va_calli (va_runV (As := [.int r_6]) (rest := []) ⟨hx, hb, hml, hown, ht⟩ (mt_X9_groupOf l dC dI h0 h2 h3 h4 h5 h6 h7 h8 h9 h10 h11 h1 h12 h13 k1 r_6 v_count v_positionCount v_stamp v_stackCount v_width v_groups _ w_6 H_6.size) (cwV 1 ht (goodV tw_1932 tw_1934 tw_141 tw_248 gw_X9_groupOf) rfl rfl rfl (by decide +kernel) ⟨Nat.le_of_ble_eq_true rfl, Nat.le_of_ble_eq_true rfl⟩) ⟨fun a U g mk q => by obtain ⟨q0, q1, qP, qK, qD⟩ := q; exact ⟨q0, q1, qP, va_K.moved (u := U) (U := U.calling g mk a) (Vm.Alike.refl U.vm) qK, qD⟩, va_recv hKc_7 hPc_7 (ci := 12) (q0 := 0) rfl rfl, fun U hU hW => ⟨rfl, by rw [hU], by rw [hU]; exact hPc_7, va_K.moved hW.alike hKc_7, hDc_7.weaken (fun _ _ _ _ => trivial)⟩⟩ rfl rfl hl_b17.1 rfl (lv_room (Nat.le_of_ble_eq_true rfl)) dX9_staysTogether_32 ⟨Nat.le_of_ble_eq_true rfl, Nat.le_of_ble_eq_true rfl⟩) hS_6 (fun q _ h => hFc_7 q h) hFc_7 (fun r_7 u_7 t_7 H_7 locs_7 ht_7 hvm_7 hw_7 hB_7 hz_7 hk_7 hS_7 => ?_)
          subst hw_7
          obtain ⟨w_7, hP1_7, hD1_7⟩ := hB_7
          rw [ht_7] at hP1_7
          obtain ⟨hP_7, hD_7⟩ := va_join (wr := [(h1, .inl (k0, 15360, .inl v_goes))]) (w1 := [(h0, .inr (12, oX9 v_count (.ref h3) v_positionCount (.ref h4) (.ref h5) (.ref h6) (.ref h7) (.ref h8) v_stamp (.ref h9) v_stackCount v_width (.ref h10) (.ref h11) (.ref h1) (.ref h12) (.ref h2) (.ref h13))), (h2, .inl (k1, 60, .inl v_groups))]) hP_6 hD_6 [0, 2] [1] rfl rfl (by decide) (by decide) hk_7 hFc_7 hP1_7 hD1_7
          have hP_7 := hP_7.sub (ws' := [(h0, .inr (12, oX9 v_count (.ref h3) v_positionCount (.ref h4) (.ref h5) (.ref h6) (.ref h7) (.ref h8) v_stamp (.ref h9) v_stackCount v_width (.ref h10) (.ref h11) (.ref h1) (.ref h12) (.ref h2) (.ref h13))), (h1, .inl (k0, 15360, .inl v_goes)), (h2, .inl (k1, 60, .inl v_groups))]) [1, 0, 2] rfl
          have hD_7 := hD_7.sub (ws' := [(h0, .inr (12, oX9 v_count (.ref h3) v_positionCount (.ref h4) (.ref h5) (.ref h6) (.ref h7) (.ref h8) v_stamp (.ref h9) v_stackCount v_width (.ref h10) (.ref h11) (.ref h1) (.ref h12) (.ref h2) (.ref h13))), (h1, .inl (k0, 15360, .inl v_goes)), (h2, .inl (k1, 60, .inl v_groups))]) [1, 0, 2] (by decide) rfl
          clear hPc_7 hDc_7 hKc_7 hFc_7 hP1_7 hD1_7 hk_7 hz_7
          refine lv_aload_n hx hb dX9_staysTogether_35 rfl (lv_at hl_b17 0 rfl) ?_
          refine lv_aload_n hx hb dX9_staysTogether_36 rfl (lv_at hl_b17 0 rfl) ?_
          refine lv_iload_n hx hb dX9_staysTogether_37 rfl (lv_at hl_b17 2 rfl) ?_
          refine lv_iload_n hx hb dX9_staysTogether_38 rfl (lv_at hl_b17 3 rfl) ?_
          have hPc_8 := hP_7.sub (ws' := [(h0, .inr (12, oX9 v_count (.ref h3) v_positionCount (.ref h4) (.ref h5) (.ref h6) (.ref h7) (.ref h8) v_stamp (.ref h9) v_stackCount v_width (.ref h10) (.ref h11) (.ref h1) (.ref h12) (.ref h2) (.ref h13))), (h1, .inl (k0, 15360, .inl v_goes))]) [0, 1] rfl
          have hDc_8 := hD_7.sub (ws' := [(h0, .inr (12, oX9 v_count (.ref h3) v_positionCount (.ref h4) (.ref h5) (.ref h6) (.ref h7) (.ref h8) v_stamp (.ref h9) v_stackCount v_width (.ref h10) (.ref h11) (.ref h1) (.ref h12) (.ref h2) (.ref h13))), (h1, .inl (k0, 15360, .inl v_goes))]) [0, 1] (by decide) rfl
          have hKc_8 := hK.sub (tys' := [(k0, .int)]) [0] rfl
          have hFc_8 := va_free (wc := [(h0, .inr (12, oX9 v_count (.ref h3) v_positionCount (.ref h4) (.ref h5) (.ref h6) (.ref h7) (.ref h8) v_stamp (.ref h9) v_stackCount v_width (.ref h10) (.ref h11) (.ref h1) (.ref h12) (.ref h2) (.ref h13))), (h1, .inl (k0, 15360, .inl v_goes))]) hD_7 hS_7 hA [0, 1] rfl
          refine va_calli (va_runV (As := [.int p2, .int l3_17]) (rest := [.ref h0, .int r_7]) ⟨hx, hb, hml, hown, ht⟩ (mt_X9_next l dC dI h0 h1 h3 h4 h5 h6 h7 h8 h9 h10 h11 h12 h2 h13 k0 p2 l3_17 v_count v_positionCount v_stamp v_stackCount v_width v_goes _ w_7 H_7.size) (cwV 2 ht (goodV tw_1899 tw_1900 tw_1901 tw_248 gw_X9_next) rfl rfl rfl (by decide +kernel) ⟨Nat.le_of_ble_eq_true rfl, Nat.le_of_ble_eq_true rfl⟩) ⟨fun a U g mk q => by obtain ⟨q0, q1, qP, qK, qD⟩ := q; exact ⟨q0, q1, qP, va_K.moved (u := U) (U := U.calling g mk a) (Vm.Alike.refl U.vm) qK, qD⟩, va_recv hKc_8 hPc_8 (ci := 12) (q0 := 0) rfl rfl, fun U hU hW => ⟨rfl, by rw [hU], by rw [hU]; exact hPc_8, va_K.moved hW.alike hKc_8, hDc_8.weaken (fun _ _ _ _ => trivial)⟩⟩ rfl rfl hl_b17.1 rfl (lv_room (Nat.le_of_ble_eq_true rfl)) dX9_staysTogether_39 ⟨Nat.le_of_ble_eq_true rfl, Nat.le_of_ble_eq_true rfl⟩) hS_7 (fun q _ h => hFc_8 q h) hFc_8 (fun r_8 u_8 t_8 H_8 locs_8 ht_8 hvm_8 hw_8 hB_8 hz_8 hk_8 hS_8 => ?_)
          subst hw_8
          obtain ⟨w_8, hP1_8, hD1_8⟩ := hB_8
          rw [ht_8] at hP1_8
          obtain ⟨hP_8, hD_8⟩ := va_join (wr := [(h2, .inl (k1, 60, .inl v_groups))]) (w1 := [(h0, .inr (12, oX9 v_count (.ref h3) v_positionCount (.ref h4) (.ref h5) (.ref h6) (.ref h7) (.ref h8) v_stamp (.ref h9) v_stackCount v_width (.ref h10) (.ref h11) (.ref h1) (.ref h12) (.ref h2) (.ref h13))), (h1, .inl (k0, 15360, .inl v_goes))]) hP_7 hD_7 [0, 1] [2] rfl rfl (by decide) (by decide) hk_8 hFc_8 hP1_8 hD1_8
          have hP_8 := hP_8.sub (ws' := [(h0, .inr (12, oX9 v_count (.ref h3) v_positionCount (.ref h4) (.ref h5) (.ref h6) (.ref h7) (.ref h8) v_stamp (.ref h9) v_stackCount v_width (.ref h10) (.ref h11) (.ref h1) (.ref h12) (.ref h2) (.ref h13))), (h1, .inl (k0, 15360, .inl v_goes)), (h2, .inl (k1, 60, .inl v_groups))]) [1, 2, 0] rfl
          have hD_8 := hD_8.sub (ws' := [(h0, .inr (12, oX9 v_count (.ref h3) v_positionCount (.ref h4) (.ref h5) (.ref h6) (.ref h7) (.ref h8) v_stamp (.ref h9) v_stackCount v_width (.ref h10) (.ref h11) (.ref h1) (.ref h12) (.ref h2) (.ref h13))), (h1, .inl (k0, 15360, .inl v_goes)), (h2, .inl (k1, 60, .inl v_groups))]) [1, 2, 0] (by decide) rfl
          clear hPc_8 hDc_8 hKc_8 hFc_8 hP1_8 hD1_8 hk_8 hz_8
          have hPc_9 := hP_8.sub (ws' := [(h0, .inr (12, oX9 v_count (.ref h3) v_positionCount (.ref h4) (.ref h5) (.ref h6) (.ref h7) (.ref h8) v_stamp (.ref h9) v_stackCount v_width (.ref h10) (.ref h11) (.ref h1) (.ref h12) (.ref h2) (.ref h13))), (h2, .inl (k1, 60, .inl v_groups))]) [0, 2] rfl
          have hDc_9 := hD_8.sub (ws' := [(h0, .inr (12, oX9 v_count (.ref h3) v_positionCount (.ref h4) (.ref h5) (.ref h6) (.ref h7) (.ref h8) v_stamp (.ref h9) v_stackCount v_width (.ref h10) (.ref h11) (.ref h1) (.ref h12) (.ref h2) (.ref h13))), (h2, .inl (k1, 60, .inl v_groups))]) [0, 2] (by decide) rfl
          have hKc_9 := hK.sub (tys' := [(k1, .int)]) [1] rfl
          have hFc_9 := va_free (wc := [(h0, .inr (12, oX9 v_count (.ref h3) v_positionCount (.ref h4) (.ref h5) (.ref h6) (.ref h7) (.ref h8) v_stamp (.ref h9) v_stackCount v_width (.ref h10) (.ref h11) (.ref h1) (.ref h12) (.ref h2) (.ref h13))), (h2, .inl (k1, 60, .inl v_groups))]) hD_8 hS_8 hA [0, 2] rfl
          refine va_calli (va_runV (As := [.int r_8]) (rest := [.int r_7]) ⟨hx, hb, hml, hown, ht⟩ (mt_X9_groupOf l dC dI h0 h2 h3 h4 h5 h6 h7 h8 h9 h10 h11 h1 h12 h13 k1 r_8 v_count v_positionCount v_stamp v_stackCount v_width v_groups _ w_8 H_8.size) (cwV 1 ht (goodV tw_1932 tw_1934 tw_141 tw_248 gw_X9_groupOf) rfl rfl rfl (by decide +kernel) ⟨Nat.le_of_ble_eq_true rfl, Nat.le_of_ble_eq_true rfl⟩) ⟨fun a U g mk q => by obtain ⟨q0, q1, qP, qK, qD⟩ := q; exact ⟨q0, q1, qP, va_K.moved (u := U) (U := U.calling g mk a) (Vm.Alike.refl U.vm) qK, qD⟩, va_recv hKc_9 hPc_9 (ci := 12) (q0 := 0) rfl rfl, fun U hU hW => ⟨rfl, by rw [hU], by rw [hU]; exact hPc_9, va_K.moved hW.alike hKc_9, hDc_9.weaken (fun _ _ _ _ => trivial)⟩⟩ rfl rfl hl_b17.1 rfl (lv_room (Nat.le_of_ble_eq_true rfl)) dX9_staysTogether_42 ⟨Nat.le_of_ble_eq_true rfl, Nat.le_of_ble_eq_true rfl⟩) hS_8 (fun q _ h => hFc_9 q h) hFc_9 (fun r_9 u_9 t_9 H_9 locs_9 ht_9 hvm_9 hw_9 hB_9 hz_9 hk_9 hS_9 => ?_)
          subst hw_9
          obtain ⟨w_9, hP1_9, hD1_9⟩ := hB_9
          rw [ht_9] at hP1_9
          obtain ⟨hP_9, hD_9⟩ := va_join (wr := [(h1, .inl (k0, 15360, .inl v_goes))]) (w1 := [(h0, .inr (12, oX9 v_count (.ref h3) v_positionCount (.ref h4) (.ref h5) (.ref h6) (.ref h7) (.ref h8) v_stamp (.ref h9) v_stackCount v_width (.ref h10) (.ref h11) (.ref h1) (.ref h12) (.ref h2) (.ref h13))), (h2, .inl (k1, 60, .inl v_groups))]) hP_8 hD_8 [0, 2] [1] rfl rfl (by decide) (by decide) hk_9 hFc_9 hP1_9 hD1_9
          have hP_9 := hP_9.sub (ws' := [(h0, .inr (12, oX9 v_count (.ref h3) v_positionCount (.ref h4) (.ref h5) (.ref h6) (.ref h7) (.ref h8) v_stamp (.ref h9) v_stackCount v_width (.ref h10) (.ref h11) (.ref h1) (.ref h12) (.ref h2) (.ref h13))), (h1, .inl (k0, 15360, .inl v_goes)), (h2, .inl (k1, 60, .inl v_groups))]) [1, 0, 2] rfl
          have hD_9 := hD_9.sub (ws' := [(h0, .inr (12, oX9 v_count (.ref h3) v_positionCount (.ref h4) (.ref h5) (.ref h6) (.ref h7) (.ref h8) v_stamp (.ref h9) v_stackCount v_width (.ref h10) (.ref h11) (.ref h1) (.ref h12) (.ref h2) (.ref h13))), (h1, .inl (k0, 15360, .inl v_goes)), (h2, .inl (k1, 60, .inl v_groups))]) [1, 0, 2] (by decide) rfl
          clear hPc_9 hDc_9 hKc_9 hFc_9 hP1_9 hD1_9 hk_9 hz_9
          refine lv_icmp_eq (tgt := 50) hx hb dX9_staysTogether_45 (by decide) (fun c_10 => ?_) (fun c_10 => ?_)
          · obtain ⟨x_11, ex_11⟩ : ∃ y : Int32, y = l3_17 + 1 := ⟨_, rfl⟩
            refine lv_iinc (v := x_11) (lv' := [(3, .int x_11), (0, .ref h0), (1, .int p1), (2, .int p2)]) hx hb dX9_staysTogether_50 hl_b17 (k := 3) rfl ex_11.symm (by decide) rfl (fun ls_11 hl_11 => ?_)
            refine lv_goto (tgt := 17) hx hb dX9_staysTogether_53 (by decide) ?_
            exact ih_17 x_11 _ _ _ (w_9.1 c_10 x_11 ex_11) hP_9 hD_9 hS_9 (lv_sub hl_11 [1, 2, 3, 0] rfl)
          · refine lv_iconst (v := 0) hx hb dX9_staysTogether_48 (by decide) ?_
            rw [hQQ]
            exact W.zret (v := 0) hx hb hr rfl (fun t9 ht9 hW9 => ⟨⟨0, 0, rfl, rfl, ⟨w_9.2 c_10, by rw [ht9]; exact hP_9, hD_9⟩⟩, hS_9.F ht9⟩) hS_9.2.2 dX9_staysTogether_49
    obtain ⟨n_12, w_12⟩ := w_2.1 c_3
    exact k_17 n_12 0 _ _ _ w_12 hP_2 hD_2 hS_2 (lv_sub hl_4 [1, 2, 3, 0] rfl)
  · refine lv_iconst (v := 0) hx hb dX9_staysTogether_13 (by decide) ?_
    rw [hQQ]
    exact W.zret (v := 0) hx hb hr rfl (fun t9 ht9 hW9 => ⟨⟨0, 0, rfl, rfl, ⟨w_2.2 c_3, by rw [ht9]; exact hP_2, hD_2⟩⟩, hS_2.F ht9⟩) hS_2.2.2 dX9_staysTogether_14
def w_X9_stateOf_35 (p1 : Int64) (v_positionCount : Int32) (v_follow : Nat → Int64) (Q : Int32 → Int32 → (Nat → Int64) → (Nat → Int64) → Prop) (v_count_35 : Int32) (v_states_35 : Nat → Int64) (v_ahead_35 : Nat → Int64) : Prop :=
  ((v_count_35 < 60) → vp_in v_count_35 60 ∧ ∀ g_3 : Nat → Int64, g_3 = vp_updL v_states_35 v_count_35.toNatClampNeg p1 → w_X9_followOf p1 v_positionCount v_follow (fun r_4 => vp_in v_count_35 60 ∧ ∀ g_5 : Nat → Int64, g_5 = vp_updL v_ahead_35 v_count_35.toNatClampNeg r_4 → ∀ x_6 : Int32, x_6 = v_count_35 + (1 : Int32) → ∀ x_8 : Int32, x_8 = x_6 - (1 : Int32) → Q x_8 x_6 g_3 g_5)) ∧ ((¬ v_count_35 < 60) → Q (-1) v_count_35 v_states_35 v_ahead_35)
def w_X9_stateOf_2B (p1 : Int64) (v_positionCount : Int32) (v_follow : Nat → Int64) (Q : Int32 → Int32 → (Nat → Int64) → (Nat → Int64) → Prop) (K2 : Int32 → Prop) (v_count_2 : Int32) (v_states_2 : Nat → Int64) (v_ahead_2 : Nat → Int64) (l3_2 : Int32) : Prop :=
  ((v_count_2 ≤ l3_2) → w_X9_stateOf_35 p1 v_positionCount v_follow Q v_count_2 v_states_2 v_ahead_2) ∧ ((¬ v_count_2 ≤ l3_2) → ((60 ≤ l3_2) → w_X9_stateOf_35 p1 v_positionCount v_follow Q v_count_2 v_states_2 v_ahead_2) ∧ ((¬ 60 ≤ l3_2) → vp_in l3_2 60 ∧ ∀ y_11 : Int64, y_11 = v_states_2 l3_2.toNatClampNeg → ∀ x_13 : Int32, x_13 = lg_cmp y_11 p1 → ((¬ x_13 = 0) → ∀ x_16 : Int32, x_16 = l3_2 + 1 → K2 x_16) ∧ ((x_13 = 0) → Q l3_2 v_count_2 v_states_2 v_ahead_2)))
def w_X9_stateOf_2 (p1 : Int64) (v_positionCount : Int32) (v_follow : Nat → Int64) (Q : Int32 → Int32 → (Nat → Int64) → (Nat → Int64) → Prop) (v_count_2 : Int32) (v_states_2 : Nat → Int64) (v_ahead_2 : Nat → Int64) : Nat → Int32 → Prop
  | 0, _ => False
  | n9 + 1, l3_2 => w_X9_stateOf_2B p1 v_positionCount v_follow Q (w_X9_stateOf_2 p1 v_positionCount v_follow Q v_count_2 v_states_2 v_ahead_2 n9) v_count_2 v_states_2 v_ahead_2 l3_2
def w_X9_stateOf (p1 : Int64) (v_count : Int32) (v_positionCount : Int32) (v_follow : Nat → Int64) (v_states : Nat → Int64) (v_ahead : Nat → Int64) (Q : Int32 → Int32 → (Nat → Int64) → (Nat → Int64) → Prop) : Prop :=
  ∃ k9 : Nat, w_X9_stateOf_2 p1 v_positionCount v_follow Q v_count v_states v_ahead k9 1
set_option maxHeartbeats 4000000 in
set_option maxRecDepth 100000 in
theorem mt_X9_stateOf (l : Launch) (dC : Nat → ClassId) (dI : Nat → Nat → Nat) (h0 h1 h2 h3 h4 h5 h6 h7 h8 h9 h10 h11 h12 h13 : Nat) (k0 k1 k2 : ClassId) (p1 : Int64) (v_count : Int32) (v_positionCount : Int32) (v_stamp : Int32) (v_stackCount : Int32) (v_width : Int32) (v_follow : Nat → Int64) (v_states : Nat → Int64) (v_ahead : Nat → Int64) (Q : Int32 → Int32 → (Nat → Int64) → (Nat → Int64) → Prop) (w : w_X9_stateOf p1 v_count v_positionCount v_follow v_states v_ahead Q) (sz : Nat) : Met l yX9_stateOf (WS yX9_stateOf cX9_stateOf 4 (some (.int))) ({ frames := 1, cells := 0, slots := 0, locals := 25 } : Room) (va_Pc [.ref h0, .long p1] (fun U => U.heap.size = sz ∧ va_P (dC, dI) vwCl [(h0, .inr (12, oX9 v_count (.ref h4) v_positionCount (.ref h5) (.ref h6) (.ref h1) (.ref h7) (.ref h8) v_stamp (.ref h9) v_stackCount v_width (.ref h2) (.ref h3) (.ref h10) (.ref h11) (.ref h12) (.ref h13))), (h1, .inl (k0, 60, .inr (.inl v_follow))), (h2, .inl (k1, 60, .inr (.inl v_states))), (h3, .inl (k2, 60, .inr (.inl v_ahead)))] U.heap ∧ va_K (dC, dI) vwCl [(k0, .long), (k1, .long), (k2, .long)] U ∧ va_D (fun _ => True) [(h0, .inr (12, oX9 v_count (.ref h4) v_positionCount (.ref h5) (.ref h6) (.ref h1) (.ref h7) (.ref h8) v_stamp (.ref h9) v_stackCount v_width (.ref h2) (.ref h3) (.ref h10) (.ref h11) (.ref h12) (.ref h13))), (h1, .inl (k0, 60, .inr (.inl v_follow))), (h2, .inl (k1, 60, .inr (.inl v_states))), (h3, .inl (k2, 60, .inr (.inl v_ahead)))])) (va_Qi (fun (r u : Int32) => r = u) (fun (u : Int32) (t : State) => ∃ (ov_count : Int32), ∃ (ov_states : Nat → Int64), ∃ (ov_ahead : Nat → Int64), (Q u ov_count ov_states ov_ahead) ∧ va_P (dC, dI) vwCl [(h0, .inr (12, oX9 ov_count (.ref h4) v_positionCount (.ref h5) (.ref h6) (.ref h1) (.ref h7) (.ref h8) v_stamp (.ref h9) v_stackCount v_width (.ref h2) (.ref h3) (.ref h10) (.ref h11) (.ref h12) (.ref h13))), (h1, .inl (k0, 60, .inr (.inl v_follow))), (h2, .inl (k1, 60, .inr (.inl ov_states))), (h3, .inl (k2, 60, .inr (.inl ov_ahead)))] t.heap ∧ va_D (va_A [(h0, .inr (12, oX9 v_count (.ref h4) v_positionCount (.ref h5) (.ref h6) (.ref h1) (.ref h7) (.ref h8) v_stamp (.ref h9) v_stackCount v_width (.ref h2) (.ref h3) (.ref h10) (.ref h11) (.ref h12) (.ref h13))), (h1, .inl (k0, 60, .inr (.inl v_follow))), (h2, .inl (k1, 60, .inr (.inl v_states))), (h3, .inl (k2, 60, .inr (.inl v_ahead)))] sz) [(h0, .inr (12, oX9 ov_count (.ref h4) v_positionCount (.ref h5) (.ref h6) (.ref h1) (.ref h7) (.ref h8) v_stamp (.ref h9) v_stackCount v_width (.ref h2) (.ref h3) (.ref h10) (.ref h11) (.ref h12) (.ref h13))), (h1, .inl (k0, 60, .inr (.inl v_follow))), (h2, .inl (k1, 60, .inr (.inl ov_states))), (h3, .inl (k2, 60, .inr (.inl ov_ahead)))]) (va_A [(h0, .inr (12, oX9 v_count (.ref h4) v_positionCount (.ref h5) (.ref h6) (.ref h1) (.ref h7) (.ref h8) v_stamp (.ref h9) v_stackCount v_width (.ref h2) (.ref h3) (.ref h10) (.ref h11) (.ref h12) (.ref h13))), (h1, .inl (k0, 60, .inr (.inl v_follow))), (h2, .inl (k1, 60, .inr (.inl v_states))), (h3, .inl (k2, 60, .inr (.inl v_ahead)))] sz)) 0 0 (va_A [(h0, .inr (12, oX9 v_count (.ref h4) v_positionCount (.ref h5) (.ref h6) (.ref h1) (.ref h7) (.ref h8) v_stamp (.ref h9) v_stackCount v_width (.ref h2) (.ref h3) (.ref h10) (.ref h11) (.ref h12) (.ref h13))), (h1, .inl (k0, 60, .inr (.inl v_follow))), (h2, .inl (k1, 60, .inr (.inl v_states))), (h3, .inl (k2, 60, .inr (.inl v_ahead)))] sz) := by
  refine Met.ofW (cc := cX9_stateOf) (maxL := 4) (ret := (some (.int))) (by decide) rfl ?_
  intro p e s m args below meth c s₁ B hml hv
  obtain ⟨rfl, hsz, hP, hK, hD0⟩ := hv
  have hx := B.exec
  have hb := B.bytes
  have hr := B.returns
  have hts := atoms_spec (ws := WS yX9_stateOf cX9_stateOf 4 (some (.int))) B.pre
  have ht : ∀ w ∈ TW, w.before _ s = true := fun w h => hts w (List.mem_cons_of_mem _ h)
  have hown : s.vm.findClass "PatternWorkshop$Table" = some m.cls := findClass_of_methodNamed B.named
  have hlocks := B.notSynchronized
  subst hsz
  have hD := hD0.self (sz := s.heap.size)
  generalize hAe : va_A [(h0, .inr (12, oX9 v_count (.ref h4) v_positionCount (.ref h5) (.ref h6) (.ref h1) (.ref h7) (.ref h8) v_stamp (.ref h9) v_stackCount v_width (.ref h2) (.ref h3) (.ref h10) (.ref h11) (.ref h12) (.ref h13))), (h1, .inl (k0, 60, .inr (.inl v_follow))), (h2, .inl (k1, 60, .inr (.inl v_states))), (h3, .inl (k2, 60, .inr (.inl v_ahead)))] s.heap.size = A at hD ⊢
  have hA : ∀ q : Nat, s.heap.size ≤ q → A q := fun q h => by rw [← hAe]; exact Or.inr h
  have hS : va_S A s.heap s.heap [] := va_S.rf
  have hP : va_P (dC, dI) vwCl [(h0, .inr (12, oX9 v_count (.ref h4) v_positionCount (.ref h5) (.ref h6) (.ref h1) (.ref h7) (.ref h8) v_stamp (.ref h9) v_stackCount v_width (.ref h2) (.ref h3) (.ref h10) (.ref h11) (.ref h12) (.ref h13))), (h1, .inl (k0, 60, .inr (.inl v_follow))), (h2, .inl (k1, 60, .inr (.inl v_states))), (h3, .inl (k2, 60, .inr (.inl v_ahead)))] s.heap := hP
  have hl := lv_entry ([.ref h0, .long p1]) (n := 4) (Nat.le_of_ble_eq_true rfl)
  rw [lg_entry_eq]
  generalize (lg_sl ([.ref h0, .long p1]) ++ List.replicate (4 - (lg_sl ([.ref h0, .long p1])).length) Slot.unset).toArray = ls at hl ⊢
  have hl : lv_has ls 4 [(0, .ref h0), (1, .long p1)] := hl
  clear hD0
  obtain ⟨QQ, hQQ⟩ : ∃ QQ, QQ = MQ below (va_Qi (fun (r u : Int32) => r = u) (fun (u : Int32) (t : State) => ∃ (ov_count : Int32), ∃ (ov_states : Nat → Int64), ∃ (ov_ahead : Nat → Int64), (Q u ov_count ov_states ov_ahead) ∧ va_P (dC, dI) vwCl [(h0, .inr (12, oX9 ov_count (.ref h4) v_positionCount (.ref h5) (.ref h6) (.ref h1) (.ref h7) (.ref h8) v_stamp (.ref h9) v_stackCount v_width (.ref h2) (.ref h3) (.ref h10) (.ref h11) (.ref h12) (.ref h13))), (h1, .inl (k0, 60, .inr (.inl v_follow))), (h2, .inl (k1, 60, .inr (.inl ov_states))), (h3, .inl (k2, 60, .inr (.inl ov_ahead)))] t.heap ∧ va_D A [(h0, .inr (12, oX9 ov_count (.ref h4) v_positionCount (.ref h5) (.ref h6) (.ref h1) (.ref h7) (.ref h8) v_stamp (.ref h9) v_stackCount v_width (.ref h2) (.ref h3) (.ref h10) (.ref h11) (.ref h12) (.ref h13))), (h1, .inl (k0, 60, .inr (.inl v_follow))), (h2, .inl (k1, 60, .inr (.inl ov_states))), (h3, .inl (k2, 60, .inr (.inl ov_ahead)))]) A) ([.ref h0, .long p1]).toArray s 0 0 A := ⟨_, rfl⟩
  show W p l e ({ frames := 1, cells := 0, slots := 0, locals := 25 } : Room) s m ([.ref h0, .long p1]).toArray below meth c s.heap [] 0 0 (MQ below (va_Qi (fun (r u : Int32) => r = u) (fun (u : Int32) (t : State) => ∃ (ov_count : Int32), ∃ (ov_states : Nat → Int64), ∃ (ov_ahead : Nat → Int64), (Q u ov_count ov_states ov_ahead) ∧ va_P (dC, dI) vwCl [(h0, .inr (12, oX9 ov_count (.ref h4) v_positionCount (.ref h5) (.ref h6) (.ref h1) (.ref h7) (.ref h8) v_stamp (.ref h9) v_stackCount v_width (.ref h2) (.ref h3) (.ref h10) (.ref h11) (.ref h12) (.ref h13))), (h1, .inl (k0, 60, .inr (.inl v_follow))), (h2, .inl (k1, 60, .inr (.inl ov_states))), (h3, .inl (k2, 60, .inr (.inl ov_ahead)))] t.heap ∧ va_D A [(h0, .inr (12, oX9 ov_count (.ref h4) v_positionCount (.ref h5) (.ref h6) (.ref h1) (.ref h7) (.ref h8) v_stamp (.ref h9) v_stackCount v_width (.ref h2) (.ref h3) (.ref h10) (.ref h11) (.ref h12) (.ref h13))), (h1, .inl (k0, 60, .inr (.inl v_follow))), (h2, .inl (k1, 60, .inr (.inl ov_states))), (h3, .inl (k2, 60, .inr (.inl ov_ahead)))]) A) ([.ref h0, .long p1]).toArray s 0 0 A) (F0 m 0 ls [])
  rw [← hQQ]
  unfold w_X9_stateOf at w
  refine lv_iconst (v := 1) hx hb dX9_stateOf_0 (by decide) ?_
  refine lv_istore_n (lv' := [(3, .int 1), (0, .ref h0), (1, .long p1)]) hx hb dX9_stateOf_1 rfl hl (by decide) rfl (fun ls_1 hl_1 => ?_)
  clear hl
  have k_2 : ∀ (v_count_2 : Int32) (v_states_2 : Nat → Int64) (v_ahead_2 : Nat → Int64), ∀ n_2 : Nat, ∀ (l3_2 : Int32), ∀ (H_b2 : Heap) (locs_b2 : List Loc) (ls_b2 : Array Slot), w_X9_stateOf_2 p1 v_positionCount v_follow Q v_count_2 v_states_2 v_ahead_2 n_2 l3_2 → va_P (dC, dI) vwCl [(h0, .inr (12, oX9 v_count_2 (.ref h4) v_positionCount (.ref h5) (.ref h6) (.ref h1) (.ref h7) (.ref h8) v_stamp (.ref h9) v_stackCount v_width (.ref h2) (.ref h3) (.ref h10) (.ref h11) (.ref h12) (.ref h13))), (h1, .inl (k0, 60, .inr (.inl v_follow))), (h2, .inl (k1, 60, .inr (.inl v_states_2))), (h3, .inl (k2, 60, .inr (.inl v_ahead_2)))] H_b2 → va_D A [(h0, .inr (12, oX9 v_count_2 (.ref h4) v_positionCount (.ref h5) (.ref h6) (.ref h1) (.ref h7) (.ref h8) v_stamp (.ref h9) v_stackCount v_width (.ref h2) (.ref h3) (.ref h10) (.ref h11) (.ref h12) (.ref h13))), (h1, .inl (k0, 60, .inr (.inl v_follow))), (h2, .inl (k1, 60, .inr (.inl v_states_2))), (h3, .inl (k2, 60, .inr (.inl v_ahead_2)))] → va_S A s.heap H_b2 locs_b2 → lv_has ls_b2 4 [(0, .ref h0), (1, .long p1), (3, .int l3_2)] → W p l e ({ frames := 1, cells := 0, slots := 0, locals := 25 } : Room) s m ([.ref h0, .long p1]).toArray below meth c H_b2 locs_b2 0 0 QQ (F0 m 2 ls_b2 []) := by
    intro v_count_2 v_states_2 v_ahead_2
    intro n_2
    induction n_2 with
    | zero =>
      intro l3_2 H_b2 locs_b2 ls_b2 w_b2 hP_b2 hD_b2 hS_b2 hl_b2
      exact False.elim (by unfold w_X9_stateOf_2 at w_b2; exact w_b2)
    | succ n_2 ih_2 =>
      intro l3_2 H_b2 locs_b2 ls_b2 w_b2 hP_b2 hD_b2 hS_b2 hl_b2
      unfold w_X9_stateOf_2 at w_b2
      unfold w_X9_stateOf_2B at w_b2
      refine lv_iload_n hx hb dX9_stateOf_2 rfl (lv_at hl_b2 2 rfl) ?_
      refine lv_aload_n hx hb dX9_stateOf_3 rfl (lv_at hl_b2 0 rfl) ?_
      refine va_get (D := (dC, dI)) (ci := 12) (v := .int v_count_2) (C := RX9) (T := TX9) (N := 18) hx hb ht inX9 hown hK hP_b2 0 rfl rfl 0 (by decide) (ht _ tw_701) (fun _ h9 => h9) rfl dX9_stateOf_4 ?_
      have k_35 : ∀ (v_count_35 : Int32) (v_states_35 : Nat → Int64) (v_ahead_35 : Nat → Int64), ∀ (H_b35 : Heap) (locs_b35 : List Loc) (ls_b35 : Array Slot), w_X9_stateOf_35 p1 v_positionCount v_follow Q v_count_35 v_states_35 v_ahead_35 → va_P (dC, dI) vwCl [(h0, .inr (12, oX9 v_count_35 (.ref h4) v_positionCount (.ref h5) (.ref h6) (.ref h1) (.ref h7) (.ref h8) v_stamp (.ref h9) v_stackCount v_width (.ref h2) (.ref h3) (.ref h10) (.ref h11) (.ref h12) (.ref h13))), (h1, .inl (k0, 60, .inr (.inl v_follow))), (h2, .inl (k1, 60, .inr (.inl v_states_35))), (h3, .inl (k2, 60, .inr (.inl v_ahead_35)))] H_b35 → va_D A [(h0, .inr (12, oX9 v_count_35 (.ref h4) v_positionCount (.ref h5) (.ref h6) (.ref h1) (.ref h7) (.ref h8) v_stamp (.ref h9) v_stackCount v_width (.ref h2) (.ref h3) (.ref h10) (.ref h11) (.ref h12) (.ref h13))), (h1, .inl (k0, 60, .inr (.inl v_follow))), (h2, .inl (k1, 60, .inr (.inl v_states_35))), (h3, .inl (k2, 60, .inr (.inl v_ahead_35)))] → va_S A s.heap H_b35 locs_b35 → lv_has ls_b35 4 [(0, .ref h0), (1, .long p1)] → W p l e ({ frames := 1, cells := 0, slots := 0, locals := 25 } : Room) s m ([.ref h0, .long p1]).toArray below meth c H_b35 locs_b35 0 0 QQ (F0 m 35 ls_b35 []) := by
        intro v_count_35 v_states_35 v_ahead_35 H_b35 locs_b35 ls_b35 w_b35 hP_b35 hD_b35 hS_b35 hl_b35
        unfold w_X9_stateOf_35 at w_b35
        refine lv_aload_n hx hb dX9_stateOf_35 rfl (lv_at hl_b35 0 rfl) ?_
        refine va_get (D := (dC, dI)) (ci := 12) (v := .int v_count_35) (C := RX9) (T := TX9) (N := 18) hx hb ht inX9 hown hK hP_b35 0 rfl rfl 0 (by decide) (ht _ tw_701) (fun _ h9 => h9) rfl dX9_stateOf_36 ?_
        refine lv_bipush (v := 60) hx hb dX9_stateOf_39 (by decide) ?_
        refine lv_icmp_lt (tgt := 46) hx hb dX9_stateOf_41 (by decide) (fun c_2 => ?_) (fun c_2 => ?_)
        · refine lv_aload_n hx hb dX9_stateOf_46 rfl (lv_at hl_b35 0 rfl) ?_
          refine va_get (D := (dC, dI)) (ci := 12) (v := .ref h2) (C := RX9) (T := TX9) (N := 18) hx hb ht inX9 hown hK hP_b35 0 rfl rfl 12 (by decide) (ht _ tw_714) (fun _ h9 => h9) rfl dX9_stateOf_47 ?_
          refine lv_aload_n hx hb dX9_stateOf_50 rfl (lv_at hl_b35 0 rfl) ?_
          refine va_get (D := (dC, dI)) (ci := 12) (v := .int v_count_35) (C := RX9) (T := TX9) (N := 18) hx hb ht inX9 hown hK hP_b35 0 rfl rfl 0 (by decide) (ht _ tw_701) (fun _ h9 => h9) rfl dX9_stateOf_51 ?_
          refine lv_lload_n hx hb dX9_stateOf_54 rfl (lv_at hl_b35 1 rfl) ?_
          refine va_last hx hb hK hP_b35 hD_b35 hS_b35 2 1 rfl rfl (i := v_count_35) (w_b35.1 c_2).1 dX9_stateOf_55 (fun H_3 locs_3 hP_3 hD_3 hS_3 => ?_)
          obtain ⟨g_3, hg_3⟩ : ∃ g : Nat → Int64, g = vp_updL v_states_35 v_count_35.toNatClampNeg p1 := ⟨_, rfl⟩
          have hP_3 : va_P (dC, dI) vwCl [(h0, .inr (12, oX9 v_count_35 (.ref h4) v_positionCount (.ref h5) (.ref h6) (.ref h1) (.ref h7) (.ref h8) v_stamp (.ref h9) v_stackCount v_width (.ref h2) (.ref h3) (.ref h10) (.ref h11) (.ref h12) (.ref h13))), (h1, .inl (k0, 60, .inr (.inl v_follow))), (h2, .inl (k1, 60, .inr (.inl g_3))), (h3, .inl (k2, 60, .inr (.inl v_ahead_35)))] H_3 := by rw [hg_3]; exact hP_3
          have hD_3 : va_D A [(h0, .inr (12, oX9 v_count_35 (.ref h4) v_positionCount (.ref h5) (.ref h6) (.ref h1) (.ref h7) (.ref h8) v_stamp (.ref h9) v_stackCount v_width (.ref h2) (.ref h3) (.ref h10) (.ref h11) (.ref h12) (.ref h13))), (h1, .inl (k0, 60, .inr (.inl v_follow))), (h2, .inl (k1, 60, .inr (.inl g_3))), (h3, .inl (k2, 60, .inr (.inl v_ahead_35)))] := by rw [hg_3]; exact hD_3
          refine lv_aload_n hx hb dX9_stateOf_56 rfl (lv_at hl_b35 0 rfl) ?_
          refine va_get (D := (dC, dI)) (ci := 12) (v := .ref h3) (C := RX9) (T := TX9) (N := 18) hx hb ht inX9 hown hK hP_3 0 rfl rfl 13 (by decide) (ht _ tw_715) (fun _ h9 => h9) rfl dX9_stateOf_57 ?_
          refine lv_aload_n hx hb dX9_stateOf_60 rfl (lv_at hl_b35 0 rfl) ?_
          refine va_get (D := (dC, dI)) (ci := 12) (v := .int v_count_35) (C := RX9) (T := TX9) (N := 18) hx hb ht inX9 hown hK hP_3 0 rfl rfl 0 (by decide) (ht _ tw_701) (fun _ h9 => h9) rfl dX9_stateOf_61 ?_
          refine lv_aload_n hx hb dX9_stateOf_64 rfl (lv_at hl_b35 0 rfl) ?_
          refine lv_lload_n hx hb dX9_stateOf_65 rfl (lv_at hl_b35 1 rfl) ?_
          have hPc_4 := hP_3.sub (ws' := [(h0, .inr (12, oX9 v_count_35 (.ref h4) v_positionCount (.ref h5) (.ref h6) (.ref h1) (.ref h7) (.ref h8) v_stamp (.ref h9) v_stackCount v_width (.ref h2) (.ref h3) (.ref h10) (.ref h11) (.ref h12) (.ref h13))), (h1, .inl (k0, 60, .inr (.inl v_follow)))]) [0, 1] rfl
          have hDc_4 := hD_3.sub (ws' := [(h0, .inr (12, oX9 v_count_35 (.ref h4) v_positionCount (.ref h5) (.ref h6) (.ref h1) (.ref h7) (.ref h8) v_stamp (.ref h9) v_stackCount v_width (.ref h2) (.ref h3) (.ref h10) (.ref h11) (.ref h12) (.ref h13))), (h1, .inl (k0, 60, .inr (.inl v_follow)))]) [0, 1] (by decide) rfl
          have hKc_4 := hK.sub (tys' := [(k0, .long)]) [0] rfl
          have hFc_4 := va_free (wc := [(h0, .inr (12, oX9 v_count_35 (.ref h4) v_positionCount (.ref h5) (.ref h6) (.ref h1) (.ref h7) (.ref h8) v_stamp (.ref h9) v_stackCount v_width (.ref h2) (.ref h3) (.ref h10) (.ref h11) (.ref h12) (.ref h13))), (h1, .inl (k0, 60, .inr (.inl v_follow)))]) hD_3 hS_3 hA [0, 1] rfl
          refine va_calll (va_runV (As := [.long p1]) (rest := [.int v_count_35, .ref h3]) ⟨hx, hb, hml, hown, ht⟩ (mt_X9_followOf l dC dI h0 h1 h4 h5 h6 h7 h8 h9 h2 h3 h10 h11 h12 h13 k0 p1 v_count_35 v_positionCount v_stamp v_stackCount v_width v_follow _ (((w_b35.1 c_2).2) g_3 hg_3) H_3.size) (cwV 1 ht (goodV tw_1875 tw_1877 tw_136 tw_248 gw_X9_followOf) rfl rfl rfl (by decide +kernel) ⟨Nat.le_of_ble_eq_true rfl, Nat.le_of_ble_eq_true rfl⟩) ⟨fun a U g mk q => by obtain ⟨q0, q1, qP, qK, qD⟩ := q; exact ⟨q0, q1, qP, va_K.moved (u := U) (U := U.calling g mk a) (Vm.Alike.refl U.vm) qK, qD⟩, va_recv hKc_4 hPc_4 (ci := 12) (q0 := 0) rfl rfl, fun U hU hW => ⟨rfl, by rw [hU], by rw [hU]; exact hPc_4, va_K.moved hW.alike hKc_4, hDc_4.weaken (fun _ _ _ _ => trivial)⟩⟩ rfl rfl hl_b35.1 rfl (lv_room (Nat.le_of_ble_eq_true rfl)) dX9_stateOf_66 ⟨Nat.le_of_ble_eq_true rfl, Nat.le_of_ble_eq_true rfl⟩) hS_3 (fun q _ h => hFc_4 q h) hFc_4 (fun r_4 u_4 t_4 H_4 locs_4 ht_4 hvm_4 hw_4 hB_4 hz_4 hk_4 hS_4 => ?_)
          subst hw_4
          obtain ⟨w_4, hP1_4, hD1_4⟩ := hB_4
          rw [ht_4] at hP1_4
          obtain ⟨hP_4, hD_4⟩ := va_join (wr := [(h2, .inl (k1, 60, .inr (.inl g_3))), (h3, .inl (k2, 60, .inr (.inl v_ahead_35)))]) (w1 := [(h0, .inr (12, oX9 v_count_35 (.ref h4) v_positionCount (.ref h5) (.ref h6) (.ref h1) (.ref h7) (.ref h8) v_stamp (.ref h9) v_stackCount v_width (.ref h2) (.ref h3) (.ref h10) (.ref h11) (.ref h12) (.ref h13))), (h1, .inl (k0, 60, .inr (.inl v_follow)))]) hP_3 hD_3 [0, 1] [2, 3] rfl rfl (by decide) (by decide) hk_4 hFc_4 hP1_4 hD1_4
          have hP_4 := hP_4.sub (ws' := [(h0, .inr (12, oX9 v_count_35 (.ref h4) v_positionCount (.ref h5) (.ref h6) (.ref h1) (.ref h7) (.ref h8) v_stamp (.ref h9) v_stackCount v_width (.ref h2) (.ref h3) (.ref h10) (.ref h11) (.ref h12) (.ref h13))), (h1, .inl (k0, 60, .inr (.inl v_follow))), (h2, .inl (k1, 60, .inr (.inl g_3))), (h3, .inl (k2, 60, .inr (.inl v_ahead_35)))]) [2, 3, 0, 1] rfl
          have hD_4 := hD_4.sub (ws' := [(h0, .inr (12, oX9 v_count_35 (.ref h4) v_positionCount (.ref h5) (.ref h6) (.ref h1) (.ref h7) (.ref h8) v_stamp (.ref h9) v_stackCount v_width (.ref h2) (.ref h3) (.ref h10) (.ref h11) (.ref h12) (.ref h13))), (h1, .inl (k0, 60, .inr (.inl v_follow))), (h2, .inl (k1, 60, .inr (.inl g_3))), (h3, .inl (k2, 60, .inr (.inl v_ahead_35)))]) [2, 3, 0, 1] (by decide) rfl
          clear hPc_4 hDc_4 hKc_4 hFc_4 hP1_4 hD1_4 hk_4 hz_4
          refine va_last hx hb hK hP_4 hD_4 hS_4 3 2 rfl rfl (i := v_count_35) w_4.1 dX9_stateOf_69 (fun H_5 locs_5 hP_5 hD_5 hS_5 => ?_)
          obtain ⟨g_5, hg_5⟩ : ∃ g : Nat → Int64, g = vp_updL v_ahead_35 v_count_35.toNatClampNeg r_4 := ⟨_, rfl⟩
          have hP_5 : va_P (dC, dI) vwCl [(h0, .inr (12, oX9 v_count_35 (.ref h4) v_positionCount (.ref h5) (.ref h6) (.ref h1) (.ref h7) (.ref h8) v_stamp (.ref h9) v_stackCount v_width (.ref h2) (.ref h3) (.ref h10) (.ref h11) (.ref h12) (.ref h13))), (h1, .inl (k0, 60, .inr (.inl v_follow))), (h2, .inl (k1, 60, .inr (.inl g_3))), (h3, .inl (k2, 60, .inr (.inl g_5)))] H_5 := by rw [hg_5]; exact hP_5
          have hD_5 : va_D A [(h0, .inr (12, oX9 v_count_35 (.ref h4) v_positionCount (.ref h5) (.ref h6) (.ref h1) (.ref h7) (.ref h8) v_stamp (.ref h9) v_stackCount v_width (.ref h2) (.ref h3) (.ref h10) (.ref h11) (.ref h12) (.ref h13))), (h1, .inl (k0, 60, .inr (.inl v_follow))), (h2, .inl (k1, 60, .inr (.inl g_3))), (h3, .inl (k2, 60, .inr (.inl g_5)))] := by rw [hg_5]; exact hD_5
          refine lv_aload_n hx hb dX9_stateOf_70 rfl (lv_at hl_b35 0 rfl) ?_
          refine lv_dup hx hb dX9_stateOf_71 rfl ?_
          refine va_get (D := (dC, dI)) (ci := 12) (v := .int v_count_35) (C := RX9) (T := TX9) (N := 18) hx hb ht inX9 hown hK hP_5 0 rfl rfl 0 (by decide) (ht _ tw_701) (fun _ h9 => h9) rfl dX9_stateOf_72 ?_
          refine lv_iconst (v := 1) hx hb dX9_stateOf_75 (by decide) ?_
          refine lv_iadd hx hb dX9_stateOf_76 ?_
          refine lv_topi (fun x_6 ex_6 => ?_)
          have ex_6 : x_6 = v_count_35 + (1 : Int32) := ex_6
          refine va_put (D := (dC, dI)) (ci := 12) (v := .int x_6) (ty := .int) (C := RX9) (T := TX9) (N := 18) hx hb ht inX9 tyX9 tyX9_ok nmX9 hown hK hP_5 hD_5 hS_5 0 rfl rfl 0 (by decide) (ht _ tw_701) (fun _ h9 => h9) rfl (by decide +kernel) rfl rfl (Nat.le_of_ble_eq_true rfl) dX9_stateOf_77 (fun H_7 locs_7 hP_7 hD_7 hS_7 => ?_)
          have hP_7 : va_P (dC, dI) vwCl [(h0, .inr (12, oX9 x_6 (.ref h4) v_positionCount (.ref h5) (.ref h6) (.ref h1) (.ref h7) (.ref h8) v_stamp (.ref h9) v_stackCount v_width (.ref h2) (.ref h3) (.ref h10) (.ref h11) (.ref h12) (.ref h13))), (h1, .inl (k0, 60, .inr (.inl v_follow))), (h2, .inl (k1, 60, .inr (.inl g_3))), (h3, .inl (k2, 60, .inr (.inl g_5)))] H_7 := hP_7
          have hD_7 : va_D A [(h0, .inr (12, oX9 x_6 (.ref h4) v_positionCount (.ref h5) (.ref h6) (.ref h1) (.ref h7) (.ref h8) v_stamp (.ref h9) v_stackCount v_width (.ref h2) (.ref h3) (.ref h10) (.ref h11) (.ref h12) (.ref h13))), (h1, .inl (k0, 60, .inr (.inl v_follow))), (h2, .inl (k1, 60, .inr (.inl g_3))), (h3, .inl (k2, 60, .inr (.inl g_5)))] := hD_7
          refine lv_aload_n hx hb dX9_stateOf_80 rfl (lv_at hl_b35 0 rfl) ?_
          refine va_get (D := (dC, dI)) (ci := 12) (v := .int x_6) (C := RX9) (T := TX9) (N := 18) hx hb ht inX9 hown hK hP_7 0 rfl rfl 0 (by decide) (ht _ tw_701) (fun _ h9 => h9) rfl dX9_stateOf_81 ?_
          refine lv_iconst (v := 1) hx hb dX9_stateOf_84 (by decide) ?_
          refine lv_isub hx hb dX9_stateOf_85 ?_
          refine lv_topi (fun x_8 ex_8 => ?_)
          have ex_8 : x_8 = x_6 - (1 : Int32) := ex_8
          rw [hQQ]
          exact W.iret (v := x_8) hx hb hr (fun t9 ht9 hW9 => ⟨⟨x_8, x_8, rfl, rfl, ⟨x_6, g_3, g_5, w_4.2 g_5 hg_5 x_6 ex_6 x_8 ex_8, by rw [ht9]; exact hP_7, hD_7⟩⟩, hS_7.F ht9⟩) hS_7.2.2 dX9_stateOf_86
        · refine lv_iconst (v := (-1)) hx hb dX9_stateOf_44 (by decide) ?_
          rw [hQQ]
          exact W.iret (v := (-1)) hx hb hr (fun t9 ht9 hW9 => ⟨⟨(-1), (-1), rfl, rfl, ⟨v_count_35, v_states_35, v_ahead_35, w_b35.2 c_2, by rw [ht9]; exact hP_b35, hD_b35⟩⟩, hS_b35.F ht9⟩) hS_b35.2.2 dX9_stateOf_45
      refine lv_icmp_ge (tgt := 35) hx hb dX9_stateOf_7 (by decide) (fun c_9 => ?_) (fun c_9 => ?_)
      · exact k_35 v_count_2 v_states_2 v_ahead_2 _ _ _ (w_b2.1 c_9) hP_b2 hD_b2 hS_b2 (lv_sub hl_b2 [0, 1] rfl)
      · refine lv_iload_n hx hb dX9_stateOf_10 rfl (lv_at hl_b2 2 rfl) ?_
        refine lv_bipush (v := 60) hx hb dX9_stateOf_11 (by decide) ?_
        refine lv_icmp_ge (tgt := 35) hx hb dX9_stateOf_13 (by decide) (fun c_10 => ?_) (fun c_10 => ?_)
        · exact k_35 v_count_2 v_states_2 v_ahead_2 _ _ _ ((w_b2.2 c_9).1 c_10) hP_b2 hD_b2 hS_b2 (lv_sub hl_b2 [0, 1] rfl)
        · refine lv_aload_n hx hb dX9_stateOf_16 rfl (lv_at hl_b2 0 rfl) ?_
          refine va_get (D := (dC, dI)) (ci := 12) (v := .ref h2) (C := RX9) (T := TX9) (N := 18) hx hb ht inX9 hown hK hP_b2 0 rfl rfl 12 (by decide) (ht _ tw_714) (fun _ h9 => h9) rfl dX9_stateOf_17 ?_
          refine lv_iload_n hx hb dX9_stateOf_20 rfl (lv_at hl_b2 2 rfl) ?_
          refine va_lald hx hb hK hP_b2 2 1 rfl rfl (i := l3_2) ((w_b2.2 c_9).2 c_10).1 dX9_stateOf_21 ?_
          refine lv_topl (fun y_11 ey_11 => ?_)
          have ey_11 : y_11 = v_states_2 l3_2.toNatClampNeg := ey_11
          refine lv_lload_n hx hb dX9_stateOf_22 rfl (lv_at hl_b2 1 rfl) ?_
          refine W.lcmp hx hb dX9_stateOf_23 ?_
          refine lv_topi (fun x_13 ex_13 => ?_)
          have ex_13 : x_13 = lg_cmp y_11 p1 := ex_13
          have w_14 := ((((w_b2.2 c_9).2 c_10).2) y_11 ey_11) x_13 ex_13
          refine lv_if_ne (tgt := 29) hx hb dX9_stateOf_24 (by decide) (fun c_15 => ?_) (fun c_15 => ?_)
          · obtain ⟨x_16, ex_16⟩ : ∃ y : Int32, y = l3_2 + 1 := ⟨_, rfl⟩
            refine lv_iinc (v := x_16) (lv' := [(3, .int x_16), (0, .ref h0), (1, .long p1)]) hx hb dX9_stateOf_29 hl_b2 (k := 2) rfl ex_16.symm (by decide) rfl (fun ls_16 hl_16 => ?_)
            refine lv_goto (tgt := 2) hx hb dX9_stateOf_32 (by decide) ?_
            exact ih_2 x_16 _ _ _ (w_14.1 c_15 x_16 ex_16) hP_b2 hD_b2 hS_b2 (lv_sub hl_16 [1, 2, 0] rfl)
          · refine lv_iload_n hx hb dX9_stateOf_27 rfl (lv_at hl_b2 2 rfl) ?_
            rw [hQQ]
            exact W.iret (v := l3_2) hx hb hr (fun t9 ht9 hW9 => ⟨⟨l3_2, l3_2, rfl, rfl, ⟨v_count_2, v_states_2, v_ahead_2, w_14.2 c_15, by rw [ht9]; exact hP_b2, hD_b2⟩⟩, hS_b2.F ht9⟩) hS_b2.2.2 dX9_stateOf_28
  obtain ⟨n_17, w_17⟩ := w
  exact k_2 v_count v_states v_ahead n_17 1 _ _ _ w_17 hP hD hS (lv_sub hl_1 [1, 2, 0] rfl)
def w_X9_fillState_2B (p1 : Int32) (v_positionCount : Int32) (v_width : Int32) (v_follow : Nat → Int64) (v_takers : Nat → Int64) (Q : Int32 → Int32 → (Nat → Int64) → (Nat → Int64) → (Nat → Int32) → Prop) (K2 : Int32 → Int32 → (Nat → Int64) → (Nat → Int64) → (Nat → Int32) → Prop) (l2_2 : Int32) (v_count_2 : Int32) (v_states_2 : Nat → Int64) (v_ahead_2 : Nat → Int64) (v_goes_2 : Nat → Int32) : Prop :=
  ((v_width ≤ l2_2) → Q 1 v_count_2 v_states_2 v_ahead_2 v_goes_2) ∧ ((¬ v_width ≤ l2_2) → vp_in p1 60 ∧ ∀ y_3 : Int64, y_3 = v_ahead_2 p1.toNatClampNeg → vp_in l2_2 256 ∧ ∀ y_4 : Int64, y_4 = v_takers l2_2.toNatClampNeg → ∀ y_5 : Int64, y_5 = y_3 &&& y_4 → w_X9_stateOf y_5 v_count_2 v_positionCount v_follow v_states_2 v_ahead_2 (fun r_6 r_6_0 r_6_1 r_6_2 => ((¬ r_6 = (-1)) → ∀ x_10 : Int32, x_10 = p1 * (256 : Int32) → ∀ x_11 : Int32, x_11 = x_10 + l2_2 → vp_in x_11 15360 ∧ ∀ g_12 : Nat → Int32, g_12 = upd v_goes_2 x_11.toNatClampNeg r_6 → ∀ x_13 : Int32, x_13 = l2_2 + 1 → K2 x_13 r_6_0 r_6_1 r_6_2 g_12) ∧ ((r_6 = (-1)) → Q 0 r_6_0 r_6_1 r_6_2 v_goes_2)))
def w_X9_fillState_2 (p1 : Int32) (v_positionCount : Int32) (v_width : Int32) (v_follow : Nat → Int64) (v_takers : Nat → Int64) (Q : Int32 → Int32 → (Nat → Int64) → (Nat → Int64) → (Nat → Int32) → Prop) : Nat → Int32 → Int32 → (Nat → Int64) → (Nat → Int64) → (Nat → Int32) → Prop
  | 0, _, _, _, _, _ => False
  | n9 + 1, l2_2, v_count_2, v_states_2, v_ahead_2, v_goes_2 => w_X9_fillState_2B p1 v_positionCount v_width v_follow v_takers Q (w_X9_fillState_2 p1 v_positionCount v_width v_follow v_takers Q n9) l2_2 v_count_2 v_states_2 v_ahead_2 v_goes_2
def w_X9_fillState (p1 : Int32) (v_count : Int32) (v_positionCount : Int32) (v_width : Int32) (v_follow : Nat → Int64) (v_takers : Nat → Int64) (v_states : Nat → Int64) (v_ahead : Nat → Int64) (v_goes : Nat → Int32) (Q : Int32 → Int32 → (Nat → Int64) → (Nat → Int64) → (Nat → Int32) → Prop) : Prop :=
  ∃ k9 : Nat, w_X9_fillState_2 p1 v_positionCount v_width v_follow v_takers Q k9 0 v_count v_states v_ahead v_goes
set_option maxHeartbeats 4000000 in
set_option maxRecDepth 100000 in
theorem mt_X9_fillState (l : Launch) (dC : Nat → ClassId) (dI : Nat → Nat → Nat) (h0 h1 h2 h3 h4 h5 h6 h7 h8 h9 h10 h11 h12 h13 : Nat) (k0 k1 k2 k3 k4 : ClassId) (p1 : Int32) (v_count : Int32) (v_positionCount : Int32) (v_stamp : Int32) (v_stackCount : Int32) (v_width : Int32) (v_follow : Nat → Int64) (v_takers : Nat → Int64) (v_states : Nat → Int64) (v_ahead : Nat → Int64) (v_goes : Nat → Int32) (Q : Int32 → Int32 → (Nat → Int64) → (Nat → Int64) → (Nat → Int32) → Prop) (w : w_X9_fillState p1 v_count v_positionCount v_width v_follow v_takers v_states v_ahead v_goes Q) (sz : Nat) : Met l yX9_fillState (WS yX9_fillState cX9_fillState 4 (some (.boolean))) ({ frames := 2, cells := 0, slots := 0, locals := 48 } : Room) (va_Pc [.ref h0, .int p1] (fun U => U.heap.size = sz ∧ va_P (dC, dI) vwCl [(h0, .inr (12, oX9 v_count (.ref h6) v_positionCount (.ref h7) (.ref h8) (.ref h1) (.ref h2) (.ref h9) v_stamp (.ref h10) v_stackCount v_width (.ref h3) (.ref h4) (.ref h5) (.ref h11) (.ref h12) (.ref h13))), (h1, .inl (k0, 60, .inr (.inl v_follow))), (h2, .inl (k1, 256, .inr (.inl v_takers))), (h3, .inl (k2, 60, .inr (.inl v_states))), (h4, .inl (k3, 60, .inr (.inl v_ahead))), (h5, .inl (k4, 15360, .inl v_goes))] U.heap ∧ va_K (dC, dI) vwCl [(k0, .long), (k1, .long), (k2, .long), (k3, .long), (k4, .int)] U ∧ va_D (fun _ => True) [(h0, .inr (12, oX9 v_count (.ref h6) v_positionCount (.ref h7) (.ref h8) (.ref h1) (.ref h2) (.ref h9) v_stamp (.ref h10) v_stackCount v_width (.ref h3) (.ref h4) (.ref h5) (.ref h11) (.ref h12) (.ref h13))), (h1, .inl (k0, 60, .inr (.inl v_follow))), (h2, .inl (k1, 256, .inr (.inl v_takers))), (h3, .inl (k2, 60, .inr (.inl v_states))), (h4, .inl (k3, 60, .inr (.inl v_ahead))), (h5, .inl (k4, 15360, .inl v_goes))])) (va_Qi (fun (r u : Int32) => r = u) (fun (u : Int32) (t : State) => ∃ (ov_count : Int32), ∃ (ov_states : Nat → Int64), ∃ (ov_ahead : Nat → Int64), ∃ (ov_goes : Nat → Int32), (Q u ov_count ov_states ov_ahead ov_goes) ∧ va_P (dC, dI) vwCl [(h0, .inr (12, oX9 ov_count (.ref h6) v_positionCount (.ref h7) (.ref h8) (.ref h1) (.ref h2) (.ref h9) v_stamp (.ref h10) v_stackCount v_width (.ref h3) (.ref h4) (.ref h5) (.ref h11) (.ref h12) (.ref h13))), (h1, .inl (k0, 60, .inr (.inl v_follow))), (h2, .inl (k1, 256, .inr (.inl v_takers))), (h3, .inl (k2, 60, .inr (.inl ov_states))), (h4, .inl (k3, 60, .inr (.inl ov_ahead))), (h5, .inl (k4, 15360, .inl ov_goes))] t.heap ∧ va_D (va_A [(h0, .inr (12, oX9 v_count (.ref h6) v_positionCount (.ref h7) (.ref h8) (.ref h1) (.ref h2) (.ref h9) v_stamp (.ref h10) v_stackCount v_width (.ref h3) (.ref h4) (.ref h5) (.ref h11) (.ref h12) (.ref h13))), (h1, .inl (k0, 60, .inr (.inl v_follow))), (h2, .inl (k1, 256, .inr (.inl v_takers))), (h3, .inl (k2, 60, .inr (.inl v_states))), (h4, .inl (k3, 60, .inr (.inl v_ahead))), (h5, .inl (k4, 15360, .inl v_goes))] sz) [(h0, .inr (12, oX9 ov_count (.ref h6) v_positionCount (.ref h7) (.ref h8) (.ref h1) (.ref h2) (.ref h9) v_stamp (.ref h10) v_stackCount v_width (.ref h3) (.ref h4) (.ref h5) (.ref h11) (.ref h12) (.ref h13))), (h1, .inl (k0, 60, .inr (.inl v_follow))), (h2, .inl (k1, 256, .inr (.inl v_takers))), (h3, .inl (k2, 60, .inr (.inl ov_states))), (h4, .inl (k3, 60, .inr (.inl ov_ahead))), (h5, .inl (k4, 15360, .inl ov_goes))]) (va_A [(h0, .inr (12, oX9 v_count (.ref h6) v_positionCount (.ref h7) (.ref h8) (.ref h1) (.ref h2) (.ref h9) v_stamp (.ref h10) v_stackCount v_width (.ref h3) (.ref h4) (.ref h5) (.ref h11) (.ref h12) (.ref h13))), (h1, .inl (k0, 60, .inr (.inl v_follow))), (h2, .inl (k1, 256, .inr (.inl v_takers))), (h3, .inl (k2, 60, .inr (.inl v_states))), (h4, .inl (k3, 60, .inr (.inl v_ahead))), (h5, .inl (k4, 15360, .inl v_goes))] sz)) 0 0 (va_A [(h0, .inr (12, oX9 v_count (.ref h6) v_positionCount (.ref h7) (.ref h8) (.ref h1) (.ref h2) (.ref h9) v_stamp (.ref h10) v_stackCount v_width (.ref h3) (.ref h4) (.ref h5) (.ref h11) (.ref h12) (.ref h13))), (h1, .inl (k0, 60, .inr (.inl v_follow))), (h2, .inl (k1, 256, .inr (.inl v_takers))), (h3, .inl (k2, 60, .inr (.inl v_states))), (h4, .inl (k3, 60, .inr (.inl v_ahead))), (h5, .inl (k4, 15360, .inl v_goes))] sz) := by
  refine Met.ofW (cc := cX9_fillState) (maxL := 4) (ret := (some (.boolean))) (by decide) rfl ?_
  intro p e s m args below meth c s₁ B hml hv
  obtain ⟨rfl, hsz, hP, hK, hD0⟩ := hv
  have hx := B.exec
  have hb := B.bytes
  have hr := B.returns
  have hts := atoms_spec (ws := WS yX9_fillState cX9_fillState 4 (some (.boolean))) B.pre
  have ht : ∀ w ∈ TW, w.before _ s = true := fun w h => hts w (List.mem_cons_of_mem _ h)
  have hown : s.vm.findClass "PatternWorkshop$Table" = some m.cls := findClass_of_methodNamed B.named
  have hlocks := B.notSynchronized
  subst hsz
  have hD := hD0.self (sz := s.heap.size)
  generalize hAe : va_A [(h0, .inr (12, oX9 v_count (.ref h6) v_positionCount (.ref h7) (.ref h8) (.ref h1) (.ref h2) (.ref h9) v_stamp (.ref h10) v_stackCount v_width (.ref h3) (.ref h4) (.ref h5) (.ref h11) (.ref h12) (.ref h13))), (h1, .inl (k0, 60, .inr (.inl v_follow))), (h2, .inl (k1, 256, .inr (.inl v_takers))), (h3, .inl (k2, 60, .inr (.inl v_states))), (h4, .inl (k3, 60, .inr (.inl v_ahead))), (h5, .inl (k4, 15360, .inl v_goes))] s.heap.size = A at hD ⊢
  have hA : ∀ q : Nat, s.heap.size ≤ q → A q := fun q h => by rw [← hAe]; exact Or.inr h
  have hS : va_S A s.heap s.heap [] := va_S.rf
  have hP : va_P (dC, dI) vwCl [(h0, .inr (12, oX9 v_count (.ref h6) v_positionCount (.ref h7) (.ref h8) (.ref h1) (.ref h2) (.ref h9) v_stamp (.ref h10) v_stackCount v_width (.ref h3) (.ref h4) (.ref h5) (.ref h11) (.ref h12) (.ref h13))), (h1, .inl (k0, 60, .inr (.inl v_follow))), (h2, .inl (k1, 256, .inr (.inl v_takers))), (h3, .inl (k2, 60, .inr (.inl v_states))), (h4, .inl (k3, 60, .inr (.inl v_ahead))), (h5, .inl (k4, 15360, .inl v_goes))] s.heap := hP
  have hl := lv_entry ([.ref h0, .int p1]) (n := 4) (Nat.le_of_ble_eq_true rfl)
  rw [lg_entry_eq]
  generalize (lg_sl ([.ref h0, .int p1]) ++ List.replicate (4 - (lg_sl ([.ref h0, .int p1])).length) Slot.unset).toArray = ls at hl ⊢
  have hl : lv_has ls 4 [(0, .ref h0), (1, .int p1)] := hl
  clear hD0
  obtain ⟨QQ, hQQ⟩ : ∃ QQ, QQ = MQ below (va_Qi (fun (r u : Int32) => r = u) (fun (u : Int32) (t : State) => ∃ (ov_count : Int32), ∃ (ov_states : Nat → Int64), ∃ (ov_ahead : Nat → Int64), ∃ (ov_goes : Nat → Int32), (Q u ov_count ov_states ov_ahead ov_goes) ∧ va_P (dC, dI) vwCl [(h0, .inr (12, oX9 ov_count (.ref h6) v_positionCount (.ref h7) (.ref h8) (.ref h1) (.ref h2) (.ref h9) v_stamp (.ref h10) v_stackCount v_width (.ref h3) (.ref h4) (.ref h5) (.ref h11) (.ref h12) (.ref h13))), (h1, .inl (k0, 60, .inr (.inl v_follow))), (h2, .inl (k1, 256, .inr (.inl v_takers))), (h3, .inl (k2, 60, .inr (.inl ov_states))), (h4, .inl (k3, 60, .inr (.inl ov_ahead))), (h5, .inl (k4, 15360, .inl ov_goes))] t.heap ∧ va_D A [(h0, .inr (12, oX9 ov_count (.ref h6) v_positionCount (.ref h7) (.ref h8) (.ref h1) (.ref h2) (.ref h9) v_stamp (.ref h10) v_stackCount v_width (.ref h3) (.ref h4) (.ref h5) (.ref h11) (.ref h12) (.ref h13))), (h1, .inl (k0, 60, .inr (.inl v_follow))), (h2, .inl (k1, 256, .inr (.inl v_takers))), (h3, .inl (k2, 60, .inr (.inl ov_states))), (h4, .inl (k3, 60, .inr (.inl ov_ahead))), (h5, .inl (k4, 15360, .inl ov_goes))]) A) ([.ref h0, .int p1]).toArray s 0 0 A := ⟨_, rfl⟩
  show W p l e ({ frames := 2, cells := 0, slots := 0, locals := 48 } : Room) s m ([.ref h0, .int p1]).toArray below meth c s.heap [] 0 0 (MQ below (va_Qi (fun (r u : Int32) => r = u) (fun (u : Int32) (t : State) => ∃ (ov_count : Int32), ∃ (ov_states : Nat → Int64), ∃ (ov_ahead : Nat → Int64), ∃ (ov_goes : Nat → Int32), (Q u ov_count ov_states ov_ahead ov_goes) ∧ va_P (dC, dI) vwCl [(h0, .inr (12, oX9 ov_count (.ref h6) v_positionCount (.ref h7) (.ref h8) (.ref h1) (.ref h2) (.ref h9) v_stamp (.ref h10) v_stackCount v_width (.ref h3) (.ref h4) (.ref h5) (.ref h11) (.ref h12) (.ref h13))), (h1, .inl (k0, 60, .inr (.inl v_follow))), (h2, .inl (k1, 256, .inr (.inl v_takers))), (h3, .inl (k2, 60, .inr (.inl ov_states))), (h4, .inl (k3, 60, .inr (.inl ov_ahead))), (h5, .inl (k4, 15360, .inl ov_goes))] t.heap ∧ va_D A [(h0, .inr (12, oX9 ov_count (.ref h6) v_positionCount (.ref h7) (.ref h8) (.ref h1) (.ref h2) (.ref h9) v_stamp (.ref h10) v_stackCount v_width (.ref h3) (.ref h4) (.ref h5) (.ref h11) (.ref h12) (.ref h13))), (h1, .inl (k0, 60, .inr (.inl v_follow))), (h2, .inl (k1, 256, .inr (.inl v_takers))), (h3, .inl (k2, 60, .inr (.inl ov_states))), (h4, .inl (k3, 60, .inr (.inl ov_ahead))), (h5, .inl (k4, 15360, .inl ov_goes))]) A) ([.ref h0, .int p1]).toArray s 0 0 A) (F0 m 0 ls [])
  rw [← hQQ]
  unfold w_X9_fillState at w
  refine lv_iconst (v := 0) hx hb dX9_fillState_0 (by decide) ?_
  refine lv_istore_n (lv' := [(2, .int 0), (0, .ref h0), (1, .int p1)]) hx hb dX9_fillState_1 rfl hl (by decide) rfl (fun ls_1 hl_1 => ?_)
  clear hl
  have k_2 : ∀ n_2 : Nat, ∀ (l2_2 : Int32) (v_count_2 : Int32) (v_states_2 : Nat → Int64) (v_ahead_2 : Nat → Int64) (v_goes_2 : Nat → Int32), ∀ (H_b2 : Heap) (locs_b2 : List Loc) (ls_b2 : Array Slot), w_X9_fillState_2 p1 v_positionCount v_width v_follow v_takers Q n_2 l2_2 v_count_2 v_states_2 v_ahead_2 v_goes_2 → va_P (dC, dI) vwCl [(h0, .inr (12, oX9 v_count_2 (.ref h6) v_positionCount (.ref h7) (.ref h8) (.ref h1) (.ref h2) (.ref h9) v_stamp (.ref h10) v_stackCount v_width (.ref h3) (.ref h4) (.ref h5) (.ref h11) (.ref h12) (.ref h13))), (h1, .inl (k0, 60, .inr (.inl v_follow))), (h2, .inl (k1, 256, .inr (.inl v_takers))), (h3, .inl (k2, 60, .inr (.inl v_states_2))), (h4, .inl (k3, 60, .inr (.inl v_ahead_2))), (h5, .inl (k4, 15360, .inl v_goes_2))] H_b2 → va_D A [(h0, .inr (12, oX9 v_count_2 (.ref h6) v_positionCount (.ref h7) (.ref h8) (.ref h1) (.ref h2) (.ref h9) v_stamp (.ref h10) v_stackCount v_width (.ref h3) (.ref h4) (.ref h5) (.ref h11) (.ref h12) (.ref h13))), (h1, .inl (k0, 60, .inr (.inl v_follow))), (h2, .inl (k1, 256, .inr (.inl v_takers))), (h3, .inl (k2, 60, .inr (.inl v_states_2))), (h4, .inl (k3, 60, .inr (.inl v_ahead_2))), (h5, .inl (k4, 15360, .inl v_goes_2))] → va_S A s.heap H_b2 locs_b2 → lv_has ls_b2 4 [(0, .ref h0), (1, .int p1), (2, .int l2_2)] → W p l e ({ frames := 2, cells := 0, slots := 0, locals := 48 } : Room) s m ([.ref h0, .int p1]).toArray below meth c H_b2 locs_b2 0 0 QQ (F0 m 2 ls_b2 []) := by
    intro n_2
    induction n_2 with
    | zero =>
      intro l2_2 v_count_2 v_states_2 v_ahead_2 v_goes_2 H_b2 locs_b2 ls_b2 w_b2 hP_b2 hD_b2 hS_b2 hl_b2
      exact False.elim (by unfold w_X9_fillState_2 at w_b2; exact w_b2)
    | succ n_2 ih_2 =>
      intro l2_2 v_count_2 v_states_2 v_ahead_2 v_goes_2 H_b2 locs_b2 ls_b2 w_b2 hP_b2 hD_b2 hS_b2 hl_b2
      unfold w_X9_fillState_2 at w_b2
      unfold w_X9_fillState_2B at w_b2
      refine lv_iload_n hx hb dX9_fillState_2 rfl (lv_at hl_b2 2 rfl) ?_
      refine lv_aload_n hx hb dX9_fillState_3 rfl (lv_at hl_b2 0 rfl) ?_
      refine va_get (D := (dC, dI)) (ci := 12) (v := .int v_width) (C := RX9) (T := TX9) (N := 18) hx hb ht inX9 hown hK hP_b2 0 rfl rfl 11 (by decide) (ht _ tw_713) (fun _ h9 => h9) rfl dX9_fillState_4 ?_
      refine lv_icmp_ge (tgt := 54) hx hb dX9_fillState_7 (by decide) (fun c_2 => ?_) (fun c_2 => ?_)
      · refine lv_iconst (v := 1) hx hb dX9_fillState_54 (by decide) ?_
        rw [hQQ]
        exact W.zret (v := 1) hx hb hr rfl (fun t9 ht9 hW9 => ⟨⟨1, 1, rfl, rfl, ⟨v_count_2, v_states_2, v_ahead_2, v_goes_2, w_b2.1 c_2, by rw [ht9]; exact hP_b2, hD_b2⟩⟩, hS_b2.F ht9⟩) hS_b2.2.2 dX9_fillState_55
      · refine lv_aload_n hx hb dX9_fillState_10 rfl (lv_at hl_b2 0 rfl) ?_
        refine lv_aload_n hx hb dX9_fillState_11 rfl (lv_at hl_b2 0 rfl) ?_
        refine va_get (D := (dC, dI)) (ci := 12) (v := .ref h4) (C := RX9) (T := TX9) (N := 18) hx hb ht inX9 hown hK hP_b2 0 rfl rfl 13 (by decide) (ht _ tw_715) (fun _ h9 => h9) rfl dX9_fillState_12 ?_
        refine lv_iload_n hx hb dX9_fillState_15 rfl (lv_at hl_b2 1 rfl) ?_
        refine va_lald hx hb hK hP_b2 4 3 rfl rfl (i := p1) (w_b2.2 c_2).1 dX9_fillState_16 ?_
        refine lv_topl (fun y_3 ey_3 => ?_)
        have ey_3 : y_3 = v_ahead_2 p1.toNatClampNeg := ey_3
        refine lv_aload_n hx hb dX9_fillState_17 rfl (lv_at hl_b2 0 rfl) ?_
        refine va_get (D := (dC, dI)) (ci := 12) (v := .ref h2) (C := RX9) (T := TX9) (N := 18) hx hb ht inX9 hown hK hP_b2 0 rfl rfl 6 (by decide) (ht _ tw_708) (fun _ h9 => h9) rfl dX9_fillState_18 ?_
        refine lv_iload_n hx hb dX9_fillState_21 rfl (lv_at hl_b2 2 rfl) ?_
        refine va_lald hx hb hK hP_b2 2 1 rfl rfl (i := l2_2) (((w_b2.2 c_2).2) y_3 ey_3).1 dX9_fillState_22 ?_
        refine lv_topl (fun y_4 ey_4 => ?_)
        have ey_4 : y_4 = v_takers l2_2.toNatClampNeg := ey_4
        refine lv_land hx hb dX9_fillState_23 ?_
        refine lv_topl (fun y_5 ey_5 => ?_)
        have ey_5 : y_5 = y_3 &&& y_4 := ey_5
        have hPc_6 := hP_b2.sub (ws' := [(h0, .inr (12, oX9 v_count_2 (.ref h6) v_positionCount (.ref h7) (.ref h8) (.ref h1) (.ref h2) (.ref h9) v_stamp (.ref h10) v_stackCount v_width (.ref h3) (.ref h4) (.ref h5) (.ref h11) (.ref h12) (.ref h13))), (h1, .inl (k0, 60, .inr (.inl v_follow))), (h3, .inl (k2, 60, .inr (.inl v_states_2))), (h4, .inl (k3, 60, .inr (.inl v_ahead_2)))]) [0, 1, 3, 4] rfl
        have hDc_6 := hD_b2.sub (ws' := [(h0, .inr (12, oX9 v_count_2 (.ref h6) v_positionCount (.ref h7) (.ref h8) (.ref h1) (.ref h2) (.ref h9) v_stamp (.ref h10) v_stackCount v_width (.ref h3) (.ref h4) (.ref h5) (.ref h11) (.ref h12) (.ref h13))), (h1, .inl (k0, 60, .inr (.inl v_follow))), (h3, .inl (k2, 60, .inr (.inl v_states_2))), (h4, .inl (k3, 60, .inr (.inl v_ahead_2)))]) [0, 1, 3, 4] (by decide) rfl
        have hKc_6 := hK.sub (tys' := [(k0, .long), (k2, .long), (k3, .long)]) [0, 2, 3] rfl
        have hFc_6 := va_free (wc := [(h0, .inr (12, oX9 v_count_2 (.ref h6) v_positionCount (.ref h7) (.ref h8) (.ref h1) (.ref h2) (.ref h9) v_stamp (.ref h10) v_stackCount v_width (.ref h3) (.ref h4) (.ref h5) (.ref h11) (.ref h12) (.ref h13))), (h1, .inl (k0, 60, .inr (.inl v_follow))), (h3, .inl (k2, 60, .inr (.inl v_states_2))), (h4, .inl (k3, 60, .inr (.inl v_ahead_2)))]) hD_b2 hS_b2 hA [0, 1, 3, 4] rfl
        have w_7 := (((((w_b2.2 c_2).2) y_3 ey_3).2) y_4 ey_4) y_5 ey_5
        refine va_calli (va_runV (As := [.long y_5]) (rest := []) ⟨hx, hb, hml, hown, ht⟩ (mt_X9_stateOf l dC dI h0 h1 h3 h4 h6 h7 h8 h2 h9 h10 h5 h11 h12 h13 k0 k2 k3 y_5 v_count_2 v_positionCount v_stamp v_stackCount v_width v_follow v_states_2 v_ahead_2 _ w_7 H_b2.size) (cwV 1 ht (goodV tw_1871 tw_1873 tw_135 tw_248 gw_X9_stateOf) rfl rfl rfl (by decide +kernel) ⟨Nat.le_of_ble_eq_true rfl, Nat.le_of_ble_eq_true rfl⟩) ⟨fun a U g mk q => by obtain ⟨q0, q1, qP, qK, qD⟩ := q; exact ⟨q0, q1, qP, va_K.moved (u := U) (U := U.calling g mk a) (Vm.Alike.refl U.vm) qK, qD⟩, va_recv hKc_6 hPc_6 (ci := 12) (q0 := 0) rfl rfl, fun U hU hW => ⟨rfl, by rw [hU], by rw [hU]; exact hPc_6, va_K.moved hW.alike hKc_6, hDc_6.weaken (fun _ _ _ _ => trivial)⟩⟩ rfl rfl hl_b2.1 rfl (lv_room (Nat.le_of_ble_eq_true rfl)) dX9_fillState_24 ⟨Nat.le_of_ble_eq_true rfl, Nat.le_of_ble_eq_true rfl⟩) hS_b2 (fun q _ h => hFc_6 q h) hFc_6 (fun r_6 u_6 t_6 H_6 locs_6 ht_6 hvm_6 hw_6 hB_6 hz_6 hk_6 hS_6 => ?_)
        subst hw_6
        obtain ⟨r_6_0, r_6_1, r_6_2, w_6, hP1_6, hD1_6⟩ := hB_6
        rw [ht_6] at hP1_6
        obtain ⟨hP_6, hD_6⟩ := va_join (wr := [(h2, .inl (k1, 256, .inr (.inl v_takers))), (h5, .inl (k4, 15360, .inl v_goes_2))]) (w1 := [(h0, .inr (12, oX9 r_6_0 (.ref h6) v_positionCount (.ref h7) (.ref h8) (.ref h1) (.ref h2) (.ref h9) v_stamp (.ref h10) v_stackCount v_width (.ref h3) (.ref h4) (.ref h5) (.ref h11) (.ref h12) (.ref h13))), (h1, .inl (k0, 60, .inr (.inl v_follow))), (h3, .inl (k2, 60, .inr (.inl r_6_1))), (h4, .inl (k3, 60, .inr (.inl r_6_2)))]) hP_b2 hD_b2 [0, 1, 3, 4] [2, 5] rfl rfl (by decide) (by decide) hk_6 hFc_6 hP1_6 hD1_6
        have hP_6 := hP_6.sub (ws' := [(h0, .inr (12, oX9 r_6_0 (.ref h6) v_positionCount (.ref h7) (.ref h8) (.ref h1) (.ref h2) (.ref h9) v_stamp (.ref h10) v_stackCount v_width (.ref h3) (.ref h4) (.ref h5) (.ref h11) (.ref h12) (.ref h13))), (h1, .inl (k0, 60, .inr (.inl v_follow))), (h2, .inl (k1, 256, .inr (.inl v_takers))), (h3, .inl (k2, 60, .inr (.inl r_6_1))), (h4, .inl (k3, 60, .inr (.inl r_6_2))), (h5, .inl (k4, 15360, .inl v_goes_2))]) [2, 3, 0, 4, 5, 1] rfl
        have hD_6 := hD_6.sub (ws' := [(h0, .inr (12, oX9 r_6_0 (.ref h6) v_positionCount (.ref h7) (.ref h8) (.ref h1) (.ref h2) (.ref h9) v_stamp (.ref h10) v_stackCount v_width (.ref h3) (.ref h4) (.ref h5) (.ref h11) (.ref h12) (.ref h13))), (h1, .inl (k0, 60, .inr (.inl v_follow))), (h2, .inl (k1, 256, .inr (.inl v_takers))), (h3, .inl (k2, 60, .inr (.inl r_6_1))), (h4, .inl (k3, 60, .inr (.inl r_6_2))), (h5, .inl (k4, 15360, .inl v_goes_2))]) [2, 3, 0, 4, 5, 1] (by decide) rfl
        clear hPc_6 hDc_6 hKc_6 hFc_6 hP1_6 hD1_6 hk_6 hz_6
        refine lv_istore_n (lv' := [(3, .int r_6), (0, .ref h0), (1, .int p1), (2, .int l2_2)]) hx hb dX9_fillState_27 rfl hl_b2 (by decide) rfl (fun ls_8 hl_8 => ?_)
        clear hl_b2
        refine lv_iload_n hx hb dX9_fillState_28 rfl (lv_at hl_8 0 rfl) ?_
        refine lv_iconst (v := (-1)) hx hb dX9_fillState_29 (by decide) ?_
        refine lv_icmp_ne (tgt := 35) hx hb dX9_fillState_30 (by decide) (fun c_9 => ?_) (fun c_9 => ?_)
        · refine lv_aload_n hx hb dX9_fillState_35 rfl (lv_at hl_8 1 rfl) ?_
          refine va_get (D := (dC, dI)) (ci := 12) (v := .ref h5) (C := RX9) (T := TX9) (N := 18) hx hb ht inX9 hown hK hP_6 0 rfl rfl 14 (by decide) (ht _ tw_716) (fun _ h9 => h9) rfl dX9_fillState_36 ?_
          refine lv_iload_n hx hb dX9_fillState_39 rfl (lv_at hl_8 2 rfl) ?_
          refine lv_sipush (v := 256) hx hb dX9_fillState_40 (by decide) ?_
          refine lv_imul hx hb dX9_fillState_43 ?_
          refine lv_topi (fun x_10 ex_10 => ?_)
          have ex_10 : x_10 = p1 * (256 : Int32) := ex_10
          refine lv_iload_n hx hb dX9_fillState_44 rfl (lv_at hl_8 3 rfl) ?_
          refine lv_iadd hx hb dX9_fillState_45 ?_
          refine lv_topi (fun x_11 ex_11 => ?_)
          have ex_11 : x_11 = x_10 + l2_2 := ex_11
          refine lv_iload_n hx hb dX9_fillState_46 rfl (lv_at hl_8 0 rfl) ?_
          refine va_iast hx hb hK hP_6 hD_6 hS_6 5 4 rfl rfl (i := x_11) (w_6.1 c_9 x_10 ex_10 x_11 ex_11).1 dX9_fillState_47 (fun H_12 locs_12 hP_12 hD_12 hS_12 => ?_)
          obtain ⟨g_12, hg_12⟩ : ∃ g : Nat → Int32, g = upd v_goes_2 x_11.toNatClampNeg r_6 := ⟨_, rfl⟩
          have hP_12 : va_P (dC, dI) vwCl [(h0, .inr (12, oX9 r_6_0 (.ref h6) v_positionCount (.ref h7) (.ref h8) (.ref h1) (.ref h2) (.ref h9) v_stamp (.ref h10) v_stackCount v_width (.ref h3) (.ref h4) (.ref h5) (.ref h11) (.ref h12) (.ref h13))), (h1, .inl (k0, 60, .inr (.inl v_follow))), (h2, .inl (k1, 256, .inr (.inl v_takers))), (h3, .inl (k2, 60, .inr (.inl r_6_1))), (h4, .inl (k3, 60, .inr (.inl r_6_2))), (h5, .inl (k4, 15360, .inl g_12))] H_12 := by rw [hg_12]; exact hP_12
          have hD_12 : va_D A [(h0, .inr (12, oX9 r_6_0 (.ref h6) v_positionCount (.ref h7) (.ref h8) (.ref h1) (.ref h2) (.ref h9) v_stamp (.ref h10) v_stackCount v_width (.ref h3) (.ref h4) (.ref h5) (.ref h11) (.ref h12) (.ref h13))), (h1, .inl (k0, 60, .inr (.inl v_follow))), (h2, .inl (k1, 256, .inr (.inl v_takers))), (h3, .inl (k2, 60, .inr (.inl r_6_1))), (h4, .inl (k3, 60, .inr (.inl r_6_2))), (h5, .inl (k4, 15360, .inl g_12))] := by rw [hg_12]; exact hD_12
          obtain ⟨x_13, ex_13⟩ : ∃ y : Int32, y = l2_2 + 1 := ⟨_, rfl⟩
          refine lv_iinc (v := x_13) (lv' := [(2, .int x_13), (3, .int r_6), (0, .ref h0), (1, .int p1)]) hx hb dX9_fillState_48 hl_8 (k := 3) rfl ex_13.symm (by decide) rfl (fun ls_13 hl_13 => ?_)
          refine lv_goto (tgt := 2) hx hb dX9_fillState_51 (by decide) ?_
          have w_14 := (((w_6.1 c_9 x_10 ex_10 x_11 ex_11).2) g_12 hg_12) x_13 ex_13
          exact ih_2 x_13 r_6_0 r_6_1 r_6_2 g_12 _ _ _ w_14 hP_12 hD_12 hS_12 (lv_sub hl_13 [2, 3, 0] rfl)
        · refine lv_iconst (v := 0) hx hb dX9_fillState_33 (by decide) ?_
          rw [hQQ]
          exact W.zret (v := 0) hx hb hr rfl (fun t9 ht9 hW9 => ⟨⟨0, 0, rfl, rfl, ⟨r_6_0, r_6_1, r_6_2, v_goes_2, w_6.2 c_9, by rw [ht9]; exact hP_6, hD_6⟩⟩, hS_6.F ht9⟩) hS_6.2.2 dX9_fillState_34
  obtain ⟨n_15, w_15⟩ := w
  exact k_2 n_15 0 v_count v_states v_ahead v_goes _ _ _ w_15 hP hD hS (lv_sub hl_1 [1, 2, 0] rfl)
