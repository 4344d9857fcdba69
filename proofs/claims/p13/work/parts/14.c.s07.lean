def w_X1_undo_v1_84 (Q : Int32 → (Nat → Int32) → Prop) (v_trailCount_84 : Int32) (v_cells_84 : Nat → Int32) : Prop :=
  Q  v_trailCount_84 v_cells_84
def w_X1_undo_v1_81 (Q : Int32 → (Nat → Int32) → Prop) (K0 : Int32 → (Nat → Int32) → Prop) (v_trailCount_81 : Int32) (v_cells_81 : Nat → Int32) : Prop :=
  K0 v_trailCount_81 v_cells_81
def w_X1_undo_v1_0B (p1 : Int32) (v_trail : Nat → Int32) (nv_trail : Nat) (Q : Int32 → (Nat → Int32) → Prop) (K0 : Int32 → (Nat → Int32) → Prop) (v_trailCount_0 : Int32) (v_cells_0 : Nat → Int32) : Prop :=
  ((v_trailCount_0 ≤ p1) → w_X1_undo_v1_84 Q v_trailCount_0 v_cells_0) ∧ ((¬ v_trailCount_0 ≤ p1) → ((v_trailCount_0 ≤ 0) → w_X1_undo_v1_84 Q v_trailCount_0 v_cells_0) ∧ ((¬ v_trailCount_0 ≤ 0) → ∀ x_3 : Int32, x_3 = Int32.ofNat nv_trail → ((x_3 < v_trailCount_0) → w_X1_undo_v1_84 Q v_trailCount_0 v_cells_0) ∧ ((¬ x_3 < v_trailCount_0) → ∀ x_5 : Int32, x_5 = v_trailCount_0 - (1 : Int32) → vp_in x_5 nv_trail ∧ ∀ x_8 : Int32, x_8 = v_trail x_5.toNatClampNeg → ∀ x_9 : Int32, x_9 = x_8 / (65536 : Int32) → ((x_9 < 0) → w_X1_undo_v1_81 Q K0 x_5 v_cells_0) ∧ ((¬ x_9 < 0) → ((266 ≤ x_9) → w_X1_undo_v1_81 Q K0 x_5 v_cells_0) ∧ ((¬ 266 ≤ x_9) → vp_in x_5 nv_trail ∧ ∀ x_15 : Int32, x_15 = v_trail x_5.toNatClampNeg → ∀ x_16 : Int32, x_16 = x_15 - x_15 / (65536 : Int32) * (65536 : Int32) → vp_in x_9 266 ∧ ∀ g_17 : Nat → Int32, g_17 = upd v_cells_0 x_9.toNatClampNeg x_16 → w_X1_undo_v1_81 Q K0 x_5 g_17)))))
def w_X1_undo_v1_0 (p1 : Int32) (v_trail : Nat → Int32) (nv_trail : Nat) (Q : Int32 → (Nat → Int32) → Prop) : Nat → Int32 → (Nat → Int32) → Prop
  | 0, _, _ => False
  | n9 + 1, v_trailCount_0, v_cells_0 => w_X1_undo_v1_0B p1 v_trail nv_trail Q (w_X1_undo_v1_0 p1 v_trail nv_trail Q n9) v_trailCount_0 v_cells_0
def w_X1_undo_v1 (p1 : Int32) (v_trailCount : Int32) (v_cells : Nat → Int32) (v_trail : Nat → Int32) (nv_trail : Nat) (Q : Int32 → (Nat → Int32) → Prop) : Prop :=
  ∃ k9 : Nat, w_X1_undo_v1_0 p1 v_trail nv_trail Q k9 v_trailCount v_cells
set_option maxHeartbeats 4000000 in
set_option maxRecDepth 100000 in
theorem mt_X1_undo_v1 (l : Launch) (dC : Nat → ClassId) (dI : Nat → Nat → Nat) (h0 h1 h2 h3 h4 h5 h6 h7 h8 h9 : Nat) (k0 k1 : ClassId) (p1 : Int32) (v_steps : Int32) (v_wholeOnly : Bool) (v_start : Int32) (v_mode : Int32) (v_node : Int32) (v_place : Int32) (v_limit : Int32) (v_verdict : Int32) (v_choiceCount : Int32) (v_trailCount : Int32) (v_cells : Nat → Int32) (v_trail : Nat → Int32) (nv_trail : Nat) (Q : Int32 → (Nat → Int32) → Prop) (w : w_X1_undo_v1 p1 v_trailCount v_cells v_trail nv_trail Q) (sz : Nat) : Met l yX1_undo (WS yX1_undo cX1_undo 3 none) ({ frames := 0, cells := 0, slots := 0, locals := 0 } : Room) (va_Pc [.ref h0, .int p1] (fun U => U.heap.size = sz ∧ va_P (dC, dI) vwCl [(h0, .inr (4, oX1 v_steps (.ref h3) (.ref h4) v_wholeOnly v_start v_mode v_node v_place v_limit v_verdict (.ref h1) (.ref h5) (.ref h6) (.ref h7) (.ref h8) (.ref h9) v_choiceCount (.ref h2) v_trailCount)), (h1, .inl (k0, 266, .inl v_cells)), (h2, .inl (k1, nv_trail, .inl v_trail))] U.heap ∧ va_K (dC, dI) vwCl [(k0, .int), (k1, .int)] U ∧ va_D (fun _ => True) [(h0, .inr (4, oX1 v_steps (.ref h3) (.ref h4) v_wholeOnly v_start v_mode v_node v_place v_limit v_verdict (.ref h1) (.ref h5) (.ref h6) (.ref h7) (.ref h8) (.ref h9) v_choiceCount (.ref h2) v_trailCount)), (h1, .inl (k0, 266, .inl v_cells)), (h2, .inl (k1, nv_trail, .inl v_trail))])) (va_Qv (fun (u : Nat) => u = 0) (fun (_ : Nat) (t : State) => ∃ (ov_trailCount : Int32), ∃ (ov_cells : Nat → Int32), (Q ov_trailCount ov_cells) ∧ va_P (dC, dI) vwCl [(h0, .inr (4, oX1 v_steps (.ref h3) (.ref h4) v_wholeOnly v_start v_mode v_node v_place v_limit v_verdict (.ref h1) (.ref h5) (.ref h6) (.ref h7) (.ref h8) (.ref h9) v_choiceCount (.ref h2) ov_trailCount)), (h1, .inl (k0, 266, .inl ov_cells)), (h2, .inl (k1, nv_trail, .inl v_trail))] t.heap ∧ va_D (va_A [(h0, .inr (4, oX1 v_steps (.ref h3) (.ref h4) v_wholeOnly v_start v_mode v_node v_place v_limit v_verdict (.ref h1) (.ref h5) (.ref h6) (.ref h7) (.ref h8) (.ref h9) v_choiceCount (.ref h2) v_trailCount)), (h1, .inl (k0, 266, .inl v_cells)), (h2, .inl (k1, nv_trail, .inl v_trail))] sz) [(h0, .inr (4, oX1 v_steps (.ref h3) (.ref h4) v_wholeOnly v_start v_mode v_node v_place v_limit v_verdict (.ref h1) (.ref h5) (.ref h6) (.ref h7) (.ref h8) (.ref h9) v_choiceCount (.ref h2) ov_trailCount)), (h1, .inl (k0, 266, .inl ov_cells)), (h2, .inl (k1, nv_trail, .inl v_trail))]) (va_A [(h0, .inr (4, oX1 v_steps (.ref h3) (.ref h4) v_wholeOnly v_start v_mode v_node v_place v_limit v_verdict (.ref h1) (.ref h5) (.ref h6) (.ref h7) (.ref h8) (.ref h9) v_choiceCount (.ref h2) v_trailCount)), (h1, .inl (k0, 266, .inl v_cells)), (h2, .inl (k1, nv_trail, .inl v_trail))] sz)) 0 0 (va_A [(h0, .inr (4, oX1 v_steps (.ref h3) (.ref h4) v_wholeOnly v_start v_mode v_node v_place v_limit v_verdict (.ref h1) (.ref h5) (.ref h6) (.ref h7) (.ref h8) (.ref h9) v_choiceCount (.ref h2) v_trailCount)), (h1, .inl (k0, 266, .inl v_cells)), (h2, .inl (k1, nv_trail, .inl v_trail))] sz) := by
  refine Met.ofW (cc := cX1_undo) (maxL := 3) (ret := none) (by decide) rfl ?_
  intro p e s m args below meth c s₁ B hml hv
  obtain ⟨rfl, hsz, hP, hK, hD0⟩ := hv
  have hx := B.exec
  have hb := B.bytes
  have hr := B.returns
  have hts := atoms_spec (ws := WS yX1_undo cX1_undo 3 none) B.pre
  have ht : ∀ w ∈ TW, w.before _ s = true := fun w h => hts w (List.mem_cons_of_mem _ h)
  have hown : s.vm.findClass "PatternWorkshop$GoingBack" = some m.cls := findClass_of_methodNamed B.named
  have hlocks := B.notSynchronized
  subst hsz
  have hD := hD0.self (sz := s.heap.size)
  generalize hAe : va_A [(h0, .inr (4, oX1 v_steps (.ref h3) (.ref h4) v_wholeOnly v_start v_mode v_node v_place v_limit v_verdict (.ref h1) (.ref h5) (.ref h6) (.ref h7) (.ref h8) (.ref h9) v_choiceCount (.ref h2) v_trailCount)), (h1, .inl (k0, 266, .inl v_cells)), (h2, .inl (k1, nv_trail, .inl v_trail))] s.heap.size = A at hD ⊢
  have hA : ∀ q : Nat, s.heap.size ≤ q → A q := fun q h => by rw [← hAe]; exact Or.inr h
  have hS : va_S A s.heap s.heap [] := va_S.rf
  have hP : va_P (dC, dI) vwCl [(h0, .inr (4, oX1 v_steps (.ref h3) (.ref h4) v_wholeOnly v_start v_mode v_node v_place v_limit v_verdict (.ref h1) (.ref h5) (.ref h6) (.ref h7) (.ref h8) (.ref h9) v_choiceCount (.ref h2) v_trailCount)), (h1, .inl (k0, 266, .inl v_cells)), (h2, .inl (k1, nv_trail, .inl v_trail))] s.heap := hP
  have hl := lv_entry ([.ref h0, .int p1]) (n := 3) (Nat.le_of_ble_eq_true rfl)
  rw [lg_entry_eq]
  generalize (lg_sl ([.ref h0, .int p1]) ++ List.replicate (3 - (lg_sl ([.ref h0, .int p1])).length) Slot.unset).toArray = ls at hl ⊢
  have hl : lv_has ls 3 [(0, .ref h0), (1, .int p1)] := hl
  clear hD0
  obtain ⟨QQ, hQQ⟩ : ∃ QQ, QQ = MQ below (va_Qv (fun (u : Nat) => u = 0) (fun (_ : Nat) (t : State) => ∃ (ov_trailCount : Int32), ∃ (ov_cells : Nat → Int32), (Q ov_trailCount ov_cells) ∧ va_P (dC, dI) vwCl [(h0, .inr (4, oX1 v_steps (.ref h3) (.ref h4) v_wholeOnly v_start v_mode v_node v_place v_limit v_verdict (.ref h1) (.ref h5) (.ref h6) (.ref h7) (.ref h8) (.ref h9) v_choiceCount (.ref h2) ov_trailCount)), (h1, .inl (k0, 266, .inl ov_cells)), (h2, .inl (k1, nv_trail, .inl v_trail))] t.heap ∧ va_D A [(h0, .inr (4, oX1 v_steps (.ref h3) (.ref h4) v_wholeOnly v_start v_mode v_node v_place v_limit v_verdict (.ref h1) (.ref h5) (.ref h6) (.ref h7) (.ref h8) (.ref h9) v_choiceCount (.ref h2) ov_trailCount)), (h1, .inl (k0, 266, .inl ov_cells)), (h2, .inl (k1, nv_trail, .inl v_trail))]) A) ([.ref h0, .int p1]).toArray s 0 0 A := ⟨_, rfl⟩
  show W p l e ({ frames := 0, cells := 0, slots := 0, locals := 0 } : Room) s m ([.ref h0, .int p1]).toArray below meth c s.heap [] 0 0 (MQ below (va_Qv (fun (u : Nat) => u = 0) (fun (_ : Nat) (t : State) => ∃ (ov_trailCount : Int32), ∃ (ov_cells : Nat → Int32), (Q ov_trailCount ov_cells) ∧ va_P (dC, dI) vwCl [(h0, .inr (4, oX1 v_steps (.ref h3) (.ref h4) v_wholeOnly v_start v_mode v_node v_place v_limit v_verdict (.ref h1) (.ref h5) (.ref h6) (.ref h7) (.ref h8) (.ref h9) v_choiceCount (.ref h2) ov_trailCount)), (h1, .inl (k0, 266, .inl ov_cells)), (h2, .inl (k1, nv_trail, .inl v_trail))] t.heap ∧ va_D A [(h0, .inr (4, oX1 v_steps (.ref h3) (.ref h4) v_wholeOnly v_start v_mode v_node v_place v_limit v_verdict (.ref h1) (.ref h5) (.ref h6) (.ref h7) (.ref h8) (.ref h9) v_choiceCount (.ref h2) ov_trailCount)), (h1, .inl (k0, 266, .inl ov_cells)), (h2, .inl (k1, nv_trail, .inl v_trail))]) A) ([.ref h0, .int p1]).toArray s 0 0 A) (F0 m 0 ls [])
  rw [← hQQ]
  unfold w_X1_undo_v1 at w
  have k_0 : ∀ n_0 : Nat, ∀ (v_trailCount_0 : Int32) (v_cells_0 : Nat → Int32), ∀ (H_b0 : Heap) (locs_b0 : List Loc) (ls_b0 : Array Slot), w_X1_undo_v1_0 p1 v_trail nv_trail Q n_0 v_trailCount_0 v_cells_0 → va_P (dC, dI) vwCl [(h0, .inr (4, oX1 v_steps (.ref h3) (.ref h4) v_wholeOnly v_start v_mode v_node v_place v_limit v_verdict (.ref h1) (.ref h5) (.ref h6) (.ref h7) (.ref h8) (.ref h9) v_choiceCount (.ref h2) v_trailCount_0)), (h1, .inl (k0, 266, .inl v_cells_0)), (h2, .inl (k1, nv_trail, .inl v_trail))] H_b0 → va_D A [(h0, .inr (4, oX1 v_steps (.ref h3) (.ref h4) v_wholeOnly v_start v_mode v_node v_place v_limit v_verdict (.ref h1) (.ref h5) (.ref h6) (.ref h7) (.ref h8) (.ref h9) v_choiceCount (.ref h2) v_trailCount_0)), (h1, .inl (k0, 266, .inl v_cells_0)), (h2, .inl (k1, nv_trail, .inl v_trail))] → va_S A s.heap H_b0 locs_b0 → lv_has ls_b0 3 [(0, .ref h0), (1, .int p1)] → W p l e ({ frames := 0, cells := 0, slots := 0, locals := 0 } : Room) s m ([.ref h0, .int p1]).toArray below meth c H_b0 locs_b0 0 0 QQ (F0 m 0 ls_b0 []) := by
    intro n_0
    induction n_0 with
    | zero =>
      intro v_trailCount_0 v_cells_0 H_b0 locs_b0 ls_b0 w_b0 hP_b0 hD_b0 hS_b0 hl_b0
      exact False.elim (by unfold w_X1_undo_v1_0 at w_b0; exact w_b0)
    | succ n_0 ih_0 =>
      intro v_trailCount_0 v_cells_0 H_b0 locs_b0 ls_b0 w_b0 hP_b0 hD_b0 hS_b0 hl_b0
      unfold w_X1_undo_v1_0 at w_b0
      unfold w_X1_undo_v1_0B at w_b0
      refine lv_aload_n hx hb dX1_undo_0 rfl (lv_at hl_b0 0 rfl) ?_
      refine va_get (D := (dC, dI)) (ci := 4) (v := .int v_trailCount_0) (C := RX1) (T := TX1) (N := 19) hx hb ht inX1 hown hK hP_b0 0 rfl rfl 18 (by decide) (ht _ tw_539) (fun _ h9 => h9) rfl dX1_undo_1 ?_
      refine lv_iload_n hx hb dX1_undo_4 rfl (lv_at hl_b0 1 rfl) ?_
      have k_84 : ∀ (v_trailCount_84 : Int32) (v_cells_84 : Nat → Int32), ∀ (H_b84 : Heap) (locs_b84 : List Loc) (ls_b84 : Array Slot), w_X1_undo_v1_84 Q v_trailCount_84 v_cells_84 → va_P (dC, dI) vwCl [(h0, .inr (4, oX1 v_steps (.ref h3) (.ref h4) v_wholeOnly v_start v_mode v_node v_place v_limit v_verdict (.ref h1) (.ref h5) (.ref h6) (.ref h7) (.ref h8) (.ref h9) v_choiceCount (.ref h2) v_trailCount_84)), (h1, .inl (k0, 266, .inl v_cells_84)), (h2, .inl (k1, nv_trail, .inl v_trail))] H_b84 → va_D A [(h0, .inr (4, oX1 v_steps (.ref h3) (.ref h4) v_wholeOnly v_start v_mode v_node v_place v_limit v_verdict (.ref h1) (.ref h5) (.ref h6) (.ref h7) (.ref h8) (.ref h9) v_choiceCount (.ref h2) v_trailCount_84)), (h1, .inl (k0, 266, .inl v_cells_84)), (h2, .inl (k1, nv_trail, .inl v_trail))] → va_S A s.heap H_b84 locs_b84 → lv_has ls_b84 3 [] → W p l e ({ frames := 0, cells := 0, slots := 0, locals := 0 } : Room) s m ([.ref h0, .int p1]).toArray below meth c H_b84 locs_b84 0 0 QQ (F0 m 84 ls_b84 []) := by
        intro v_trailCount_84 v_cells_84 H_b84 locs_b84 ls_b84 w_b84 hP_b84 hD_b84 hS_b84 hl_b84
        unfold w_X1_undo_v1_84 at w_b84
        rw [hQQ]
        exact W.vret hx hb hr (fun t9 ht9 hW9 => ⟨⟨0, rfl, rfl, ⟨v_trailCount_84, v_cells_84, w_b84, by rw [ht9]; exact hP_b84, hD_b84⟩⟩, hS_b84.F ht9⟩) hS_b84.2.2 dX1_undo_84
      refine lv_icmp_le (tgt := 84) hx hb dX1_undo_5 (by decide) (fun c_1 => ?_) (fun c_1 => ?_)
      · exact k_84 v_trailCount_0 v_cells_0 _ _ _ (w_b0.1 c_1) hP_b0 hD_b0 hS_b0 (lv_sub hl_b0 [] rfl)
      · refine lv_aload_n hx hb dX1_undo_8 rfl (lv_at hl_b0 0 rfl) ?_
        refine va_get (D := (dC, dI)) (ci := 4) (v := .int v_trailCount_0) (C := RX1) (T := TX1) (N := 19) hx hb ht inX1 hown hK hP_b0 0 rfl rfl 18 (by decide) (ht _ tw_539) (fun _ h9 => h9) rfl dX1_undo_9 ?_
        refine lv_if_le (tgt := 84) hx hb dX1_undo_12 (by decide) (fun c_2 => ?_) (fun c_2 => ?_)
        · exact k_84 v_trailCount_0 v_cells_0 _ _ _ ((w_b0.2 c_1).1 c_2) hP_b0 hD_b0 hS_b0 (lv_sub hl_b0 [] rfl)
        · refine lv_aload_n hx hb dX1_undo_15 rfl (lv_at hl_b0 0 rfl) ?_
          refine va_get (D := (dC, dI)) (ci := 4) (v := .int v_trailCount_0) (C := RX1) (T := TX1) (N := 19) hx hb ht inX1 hown hK hP_b0 0 rfl rfl 18 (by decide) (ht _ tw_539) (fun _ h9 => h9) rfl dX1_undo_16 ?_
          refine lv_aload_n hx hb dX1_undo_19 rfl (lv_at hl_b0 0 rfl) ?_
          refine va_get (D := (dC, dI)) (ci := 4) (v := .ref h2) (C := RX1) (T := TX1) (N := 19) hx hb ht inX1 hown hK hP_b0 0 rfl rfl 17 (by decide) (ht _ tw_538) (fun _ h9 => h9) rfl dX1_undo_20 ?_
          refine va_alen hx hb hK hP_b0 2 1 rfl rfl rfl dX1_undo_23 ?_
          refine lv_topi (fun x_3 ex_3 => ?_)
          have ex_3 : x_3 = Int32.ofNat nv_trail := ex_3
          refine lv_icmp_gt (tgt := 84) hx hb dX1_undo_24 (by decide) (fun c_4 => ?_) (fun c_4 => ?_)
          · exact k_84 v_trailCount_0 v_cells_0 _ _ _ ((((w_b0.2 c_1).2 c_2) x_3 ex_3).1 c_4) hP_b0 hD_b0 hS_b0 (lv_sub hl_b0 [] rfl)
          · refine lv_aload_n hx hb dX1_undo_27 rfl (lv_at hl_b0 0 rfl) ?_
            refine lv_dup hx hb dX1_undo_28 rfl ?_
            refine va_get (D := (dC, dI)) (ci := 4) (v := .int v_trailCount_0) (C := RX1) (T := TX1) (N := 19) hx hb ht inX1 hown hK hP_b0 0 rfl rfl 18 (by decide) (ht _ tw_539) (fun _ h9 => h9) rfl dX1_undo_29 ?_
            refine lv_iconst (v := 1) hx hb dX1_undo_32 (by decide) ?_
            refine lv_isub hx hb dX1_undo_33 ?_
            refine lv_topi (fun x_5 ex_5 => ?_)
            have ex_5 : x_5 = v_trailCount_0 - (1 : Int32) := ex_5
            refine va_put (D := (dC, dI)) (ci := 4) (v := .int x_5) (ty := .int) (C := RX1) (T := TX1) (N := 19) hx hb ht inX1 tyX1 tyX1_ok nmX1 hown hK hP_b0 hD_b0 hS_b0 0 rfl rfl 18 (by decide) (ht _ tw_539) (fun _ h9 => h9) rfl (by decide +kernel) rfl rfl (Nat.le_of_ble_eq_true rfl) dX1_undo_34 (fun H_6 locs_6 hP_6 hD_6 hS_6 => ?_)
            have hP_6 : va_P (dC, dI) vwCl [(h0, .inr (4, oX1 v_steps (.ref h3) (.ref h4) v_wholeOnly v_start v_mode v_node v_place v_limit v_verdict (.ref h1) (.ref h5) (.ref h6) (.ref h7) (.ref h8) (.ref h9) v_choiceCount (.ref h2) x_5)), (h1, .inl (k0, 266, .inl v_cells_0)), (h2, .inl (k1, nv_trail, .inl v_trail))] H_6 := hP_6
            have hD_6 : va_D A [(h0, .inr (4, oX1 v_steps (.ref h3) (.ref h4) v_wholeOnly v_start v_mode v_node v_place v_limit v_verdict (.ref h1) (.ref h5) (.ref h6) (.ref h7) (.ref h8) (.ref h9) v_choiceCount (.ref h2) x_5)), (h1, .inl (k0, 266, .inl v_cells_0)), (h2, .inl (k1, nv_trail, .inl v_trail))] := hD_6
            refine lv_aload_n hx hb dX1_undo_37 rfl (lv_at hl_b0 0 rfl) ?_
            refine va_get (D := (dC, dI)) (ci := 4) (v := .ref h2) (C := RX1) (T := TX1) (N := 19) hx hb ht inX1 hown hK hP_6 0 rfl rfl 17 (by decide) (ht _ tw_538) (fun _ h9 => h9) rfl dX1_undo_38 ?_
            refine lv_aload_n hx hb dX1_undo_41 rfl (lv_at hl_b0 0 rfl) ?_
            refine va_get (D := (dC, dI)) (ci := 4) (v := .int x_5) (C := RX1) (T := TX1) (N := 19) hx hb ht inX1 hown hK hP_6 0 rfl rfl 18 (by decide) (ht _ tw_539) (fun _ h9 => h9) rfl dX1_undo_42 ?_
            have w_7 := ((((w_b0.2 c_1).2 c_2) x_3 ex_3).2 c_4) x_5 ex_5
            refine va_iald hx hb hK hP_6 2 1 rfl rfl (i := x_5) w_7.1 dX1_undo_45 ?_
            refine lv_topi (fun x_8 ex_8 => ?_)
            have ex_8 : x_8 = v_trail x_5.toNatClampNeg := ex_8
            refine lv_ldc hx hb hown (ht _ tw_1669) dX1_undo_46 ?_
            refine lv_idiv hx hb dX1_undo_48 (by decide) ?_
            refine lv_topi (fun x_9 ex_9 => ?_)
            have ex_9 : x_9 = x_8 / (65536 : Int32) := ex_9
            refine lv_istore_n (lv' := [(2, .int x_9), (0, .ref h0), (1, .int p1)]) hx hb dX1_undo_49 rfl hl_b0 (by decide) rfl (fun ls_10 hl_10 => ?_)
            clear hl_b0
            refine lv_iload_n hx hb dX1_undo_50 rfl (lv_at hl_10 0 rfl) ?_
            have k_81 : ∀ (v_trailCount_81 : Int32) (v_cells_81 : Nat → Int32), ∀ (H_b81 : Heap) (locs_b81 : List Loc) (ls_b81 : Array Slot), w_X1_undo_v1_81 Q (w_X1_undo_v1_0 p1 v_trail nv_trail Q n_0) v_trailCount_81 v_cells_81 → va_P (dC, dI) vwCl [(h0, .inr (4, oX1 v_steps (.ref h3) (.ref h4) v_wholeOnly v_start v_mode v_node v_place v_limit v_verdict (.ref h1) (.ref h5) (.ref h6) (.ref h7) (.ref h8) (.ref h9) v_choiceCount (.ref h2) v_trailCount_81)), (h1, .inl (k0, 266, .inl v_cells_81)), (h2, .inl (k1, nv_trail, .inl v_trail))] H_b81 → va_D A [(h0, .inr (4, oX1 v_steps (.ref h3) (.ref h4) v_wholeOnly v_start v_mode v_node v_place v_limit v_verdict (.ref h1) (.ref h5) (.ref h6) (.ref h7) (.ref h8) (.ref h9) v_choiceCount (.ref h2) v_trailCount_81)), (h1, .inl (k0, 266, .inl v_cells_81)), (h2, .inl (k1, nv_trail, .inl v_trail))] → va_S A s.heap H_b81 locs_b81 → lv_has ls_b81 3 [(0, .ref h0), (1, .int p1)] → W p l e ({ frames := 0, cells := 0, slots := 0, locals := 0 } : Room) s m ([.ref h0, .int p1]).toArray below meth c H_b81 locs_b81 0 0 QQ (F0 m 81 ls_b81 []) := by
              intro v_trailCount_81 v_cells_81 H_b81 locs_b81 ls_b81 w_b81 hP_b81 hD_b81 hS_b81 hl_b81
              unfold w_X1_undo_v1_81 at w_b81
              refine lv_goto (tgt := 0) hx hb dX1_undo_81 (by decide) ?_
              exact ih_0 v_trailCount_81 v_cells_81 _ _ _ w_b81 hP_b81 hD_b81 hS_b81 (lv_sub hl_b81 [0, 1] rfl)
            refine lv_if_lt (tgt := 81) hx hb dX1_undo_51 (by decide) (fun c_11 => ?_) (fun c_11 => ?_)
            · exact k_81 x_5 v_cells_0 _ _ _ ((w_7.2 x_8 ex_8 x_9 ex_9).1 c_11) hP_6 hD_6 hS_6 (lv_sub hl_10 [1, 2] rfl)
            · refine lv_iload_n hx hb dX1_undo_54 rfl (lv_at hl_10 0 rfl) ?_
              refine lv_aload_n hx hb dX1_undo_55 rfl (lv_at hl_10 1 rfl) ?_
              refine va_get (D := (dC, dI)) (ci := 4) (v := .ref h1) (C := RX1) (T := TX1) (N := 19) hx hb ht inX1 hown hK hP_6 0 rfl rfl 10 (by decide) (ht _ tw_531) (fun _ h9 => h9) rfl dX1_undo_56 ?_
              refine va_alen hx hb hK hP_6 1 0 rfl rfl (v := 266) (show Int32.ofNat 266 = 266 by decide) dX1_undo_59 ?_
              refine lv_icmp_ge (tgt := 81) hx hb dX1_undo_60 (by decide) (fun c_12 => ?_) (fun c_12 => ?_)
              · have w_13 := ((w_7.2 x_8 ex_8 x_9 ex_9).2 c_11).1 c_12
                exact k_81 x_5 v_cells_0 _ _ _ w_13 hP_6 hD_6 hS_6 (lv_sub hl_10 [1, 2] rfl)
              · refine lv_aload_n hx hb dX1_undo_63 rfl (lv_at hl_10 1 rfl) ?_
                refine va_get (D := (dC, dI)) (ci := 4) (v := .ref h1) (C := RX1) (T := TX1) (N := 19) hx hb ht inX1 hown hK hP_6 0 rfl rfl 10 (by decide) (ht _ tw_531) (fun _ h9 => h9) rfl dX1_undo_64 ?_
                refine lv_iload_n hx hb dX1_undo_67 rfl (lv_at hl_10 0 rfl) ?_
                refine lv_aload_n hx hb dX1_undo_68 rfl (lv_at hl_10 1 rfl) ?_
                refine va_get (D := (dC, dI)) (ci := 4) (v := .ref h2) (C := RX1) (T := TX1) (N := 19) hx hb ht inX1 hown hK hP_6 0 rfl rfl 17 (by decide) (ht _ tw_538) (fun _ h9 => h9) rfl dX1_undo_69 ?_
                refine lv_aload_n hx hb dX1_undo_72 rfl (lv_at hl_10 1 rfl) ?_
                refine va_get (D := (dC, dI)) (ci := 4) (v := .int x_5) (C := RX1) (T := TX1) (N := 19) hx hb ht inX1 hown hK hP_6 0 rfl rfl 18 (by decide) (ht _ tw_539) (fun _ h9 => h9) rfl dX1_undo_73 ?_
                have w_14 := ((w_7.2 x_8 ex_8 x_9 ex_9).2 c_11).2 c_12
                refine va_iald hx hb hK hP_6 2 1 rfl rfl (i := x_5) w_14.1 dX1_undo_76 ?_
                refine lv_topi (fun x_15 ex_15 => ?_)
                have ex_15 : x_15 = v_trail x_5.toNatClampNeg := ex_15
                refine lv_ldc hx hb hown (ht _ tw_1669) dX1_undo_77 ?_
                refine lv_irem hx hb dX1_undo_79 (by decide) ?_
                refine lv_topi (fun x_16 ex_16 => ?_)
                have ex_16 : x_16 = x_15 - x_15 / (65536 : Int32) * (65536 : Int32) := ex_16
                refine va_iast hx hb hK hP_6 hD_6 hS_6 1 0 rfl rfl (i := x_9) (w_14.2 x_15 ex_15 x_16 ex_16).1 dX1_undo_80 (fun H_17 locs_17 hP_17 hD_17 hS_17 => ?_)
                obtain ⟨g_17, hg_17⟩ : ∃ g : Nat → Int32, g = upd v_cells_0 x_9.toNatClampNeg x_16 := ⟨_, rfl⟩
                have hP_17 : va_P (dC, dI) vwCl [(h0, .inr (4, oX1 v_steps (.ref h3) (.ref h4) v_wholeOnly v_start v_mode v_node v_place v_limit v_verdict (.ref h1) (.ref h5) (.ref h6) (.ref h7) (.ref h8) (.ref h9) v_choiceCount (.ref h2) x_5)), (h1, .inl (k0, 266, .inl g_17)), (h2, .inl (k1, nv_trail, .inl v_trail))] H_17 := by rw [hg_17]; exact hP_17
                have hD_17 : va_D A [(h0, .inr (4, oX1 v_steps (.ref h3) (.ref h4) v_wholeOnly v_start v_mode v_node v_place v_limit v_verdict (.ref h1) (.ref h5) (.ref h6) (.ref h7) (.ref h8) (.ref h9) v_choiceCount (.ref h2) x_5)), (h1, .inl (k0, 266, .inl g_17)), (h2, .inl (k1, nv_trail, .inl v_trail))] := by rw [hg_17]; exact hD_17
                have w_18 := ((w_14.2 x_15 ex_15 x_16 ex_16).2) g_17 hg_17
                exact k_81 x_5 g_17 _ _ _ w_18 hP_17 hD_17 hS_17 (lv_sub hl_10 [1, 2] rfl)
  obtain ⟨n_19, w_19⟩ := w
  exact k_0 n_19 v_trailCount v_cells _ _ _ w_19 hP hD hS (lv_sub hl [0, 1] rfl)
