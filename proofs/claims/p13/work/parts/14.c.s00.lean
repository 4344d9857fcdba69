def w_X1_keepChoice_133 (nv_choices : Nat) (nv_heights : Nat) (h1 : Nat) (h2 : Nat) (Q : Int32 → Nat → (Nat → Int32) → Nat → Nat → (Nat → Int32) → Nat → Prop) (v_choiceCount_133 : Int32) (v_choices_133 : Nat → Int32) (v_heights_133 : Nat → Int32) : Prop :=
  Q  v_choiceCount_133 h1 v_choices_133 nv_choices h2 v_heights_133 nv_heights
def w_X1_keepChoice_56 (p1 : Int32) (p2 : Int32) (v_place : Int32) (v_trailCount : Int32) (nv_choices : Nat) (nv_heights : Nat) (h1 : Nat) (h2 : Nat) (Q : Int32 → Nat → (Nat → Int32) → Nat → Nat → (Nat → Int32) → Nat → Prop) (v_choiceCount_56 : Int32) (v_choices_56 : Nat → Int32) (v_heights_56 : Nat → Int32) : Prop :=
  ((v_choiceCount_56 < 0) → w_X1_keepChoice_133 nv_choices nv_heights h1 h2 Q v_choiceCount_56 v_choices_56 v_heights_56) ∧ ((¬ v_choiceCount_56 < 0) → ∀ x_6 : Int32, x_6 = Int32.ofNat nv_choices → nv_choices ≤ 524288 → ((x_6 ≤ v_choiceCount_56) → w_X1_keepChoice_133 nv_choices nv_heights h1 h2 Q v_choiceCount_56 v_choices_56 v_heights_56) ∧ ((¬ x_6 ≤ v_choiceCount_56) → ∀ x_9 : Int32, x_9 = Int32.ofNat nv_heights → nv_heights ≤ 524288 → ((x_9 ≤ v_choiceCount_56) → w_X1_keepChoice_133 nv_choices nv_heights h1 h2 Q v_choiceCount_56 v_choices_56 v_heights_56) ∧ ((¬ x_9 ≤ v_choiceCount_56) → ∀ x_13 : Int32, x_13 = p2 * (4 : Int32) → ∀ x_14 : Int32, x_14 = x_13 + p1 → ∀ x_15 : Int32, x_15 = x_14 * (128 : Int32) → ∀ x_16 : Int32, x_16 = x_15 + v_place → vp_in v_choiceCount_56 nv_choices ∧ ∀ g_18 : Nat → Int32, g_18 = upd v_choices_56 v_choiceCount_56.toNatClampNeg x_16 → vp_in v_choiceCount_56 nv_heights ∧ ∀ g_19 : Nat → Int32, g_19 = upd v_heights_56 v_choiceCount_56.toNatClampNeg v_trailCount → ∀ x_20 : Int32, x_20 = v_choiceCount_56 + (1 : Int32) → w_X1_keepChoice_133 nv_choices nv_heights h1 h2 Q x_20 g_18 g_19)))
def w_X1_keepChoice_200133 (Q : Int32 → Nat → (Nat → Int32) → Nat → Nat → (Nat → Int32) → Nat → Prop) (v_choiceCount_200133 : Int32) (v_choices_200133 : Nat → Int32) (v_heights_200133 : Nat → Int32) (hN34_200133 : Nat) (vN34_200133 : Nat → Int32) (nN34_200133 : Nat) (hN50_200133 : Nat) (vN50_200133 : Nat → Int32) (nN50_200133 : Nat) : Prop :=
  Q  v_choiceCount_200133 hN34_200133 vN34_200133 nN34_200133 hN50_200133 vN50_200133 nN50_200133
def w_X1_keepChoice (p1 : Int32) (p2 : Int32) (v_place : Int32) (v_choiceCount : Int32) (v_trailCount : Int32) (v_choices : Nat → Int32) (nv_choices : Nat) (v_heights : Nat → Int32) (nv_heights : Nat) (h1 : Nat) (h2 : Nat) (Q : Int32 → Nat → (Nat → Int32) → Nat → Nat → (Nat → Int32) → Nat → Prop) : Prop :=
  ∀ x_1 : Int32, x_1 = Int32.ofNat nv_choices → nv_choices ≤ 524288 → ((v_choiceCount < x_1) → w_X1_keepChoice_56 p1 p2 v_place v_trailCount nv_choices nv_heights h1 h2 Q v_choiceCount v_choices v_heights) ∧ ((¬ v_choiceCount < x_1) → ∀ x_24 : Int32, x_24 = Int32.ofNat nv_choices → nv_choices ≤ 524288 → ((262144 ≤ x_24) → w_X1_keepChoice_56 p1 p2 v_place v_trailCount nv_choices nv_heights h1 h2 Q v_choiceCount v_choices v_heights) ∧ ((¬ 262144 ≤ x_24) → ∀ x_28 : Int32, x_28 = Int32.ofNat nv_choices → nv_choices ≤ 524288 → ∀ x_30 : Int32, x_30 = x_28 * (2 : Int32) → ¬ x_30 < 0 ∧ x_30.toNatClampNeg = 2 * nv_choices ∧ nv_choices < 262144 ∧ ∀ (g_31 : Nat → Int32) (ra_31 : Nat), ∀ x_34 : Int32, x_34 = Int32.ofNat (2 * nv_choices) → (2 * nv_choices) ≤ 524288 → ¬ x_34 < 0 ∧ x_34.toNatClampNeg = 2 * nv_heights ∧ ∀ (g_36 : Nat → Int32) (ra_36 : Nat), ((v_choiceCount < 0) → w_X1_keepChoice_200133 Q v_choiceCount v_choices v_heights ra_31 g_31 (2 * nv_choices) ra_36 g_36 (2 * nv_heights)) ∧ ((¬ v_choiceCount < 0) → ∀ x_44 : Int32, x_44 = Int32.ofNat (2 * nv_choices) → (2 * nv_choices) ≤ 524288 → ((x_44 ≤ v_choiceCount) → w_X1_keepChoice_200133 Q v_choiceCount v_choices v_heights ra_31 g_31 (2 * nv_choices) ra_36 g_36 (2 * nv_heights)) ∧ ((¬ x_44 ≤ v_choiceCount) → ∀ x_47 : Int32, x_47 = Int32.ofNat (2 * nv_heights) → (2 * nv_heights) ≤ 524288 → ((x_47 ≤ v_choiceCount) → w_X1_keepChoice_200133 Q v_choiceCount v_choices v_heights ra_31 g_31 (2 * nv_choices) ra_36 g_36 (2 * nv_heights)) ∧ ((¬ x_47 ≤ v_choiceCount) → ∀ x_51 : Int32, x_51 = p2 * (4 : Int32) → ∀ x_52 : Int32, x_52 = x_51 + p1 → ∀ x_53 : Int32, x_53 = x_52 * (128 : Int32) → ∀ x_54 : Int32, x_54 = x_53 + v_place → vp_in v_choiceCount (2 * nv_choices) ∧ ∀ g_56 : Nat → Int32, g_56 = upd g_31 v_choiceCount.toNatClampNeg x_54 → vp_in v_choiceCount (2 * nv_heights) ∧ ∀ g_57 : Nat → Int32, g_57 = upd g_36 v_choiceCount.toNatClampNeg v_trailCount → ∀ x_58 : Int32, x_58 = v_choiceCount + (1 : Int32) → w_X1_keepChoice_200133 Q x_58 v_choices v_heights ra_31 g_56 (2 * nv_choices) ra_36 g_57 (2 * nv_heights))))))
set_option maxHeartbeats 4000000 in
set_option maxRecDepth 100000 in
theorem mt_X1_keepChoice (l : Launch) (dC : Nat → ClassId) (dI : Nat → Nat → Nat) (h0 h1 h2 h3 h4 h5 h6 h7 h8 h9 : Nat) (k0 k1 k2 : ClassId) (p1 : Int32) (p2 : Int32) (v_steps : Int32) (v_wholeOnly : Bool) (v_start : Int32) (v_mode : Int32) (v_node : Int32) (v_place : Int32) (v_limit : Int32) (v_verdict : Int32) (v_choiceCount : Int32) (v_trailCount : Int32) (v_choices : Nat → Int32) (nv_choices : Nat) (v_heights : Nat → Int32) (nv_heights : Nat) (v_trail : Nat → Int32) (nv_trail : Nat) (Q : Int32 → Nat → (Nat → Int32) → Nat → Nat → (Nat → Int32) → Nat → Prop) (w : w_X1_keepChoice p1 p2 v_place v_choiceCount v_trailCount v_choices nv_choices v_heights nv_heights h1 h2 Q) (sz : Nat) (su qc qs : Nat) (hL : gLn nv_choices nv_heights nv_trail qc qs) : Met l yX1_keepChoice (WS yX1_keepChoice cX1_keepChoice 3 none) ({ frames := 2, cells := qc, slots := qs, locals := 62 } : Room) (va_Pc [.ref h0, .int p1, .int p2] (fun U => U.heap.size = sz ∧ hsum U.heap = su ∧ va_P (dC, dI) vwCl [(h0, .inr (4, oX1 v_steps (.ref h4) (.ref h5) v_wholeOnly v_start v_mode v_node v_place v_limit v_verdict (.ref h6) (.ref h7) (.ref h8) (.ref h9) (.ref h1) (.ref h2) v_choiceCount (.ref h3) v_trailCount)), (h1, .inl (k0, nv_choices, .inl v_choices)), (h2, .inl (k1, nv_heights, .inl v_heights)), (h3, .inl (k2, nv_trail, .inl v_trail))] U.heap ∧ va_K (dC, dI) vwCl [(k0, .int), (k1, .int), (k2, .int)] U ∧ va_D (fun _ => True) [(h0, .inr (4, oX1 v_steps (.ref h4) (.ref h5) v_wholeOnly v_start v_mode v_node v_place v_limit v_verdict (.ref h6) (.ref h7) (.ref h8) (.ref h9) (.ref h1) (.ref h2) v_choiceCount (.ref h3) v_trailCount)), (h1, .inl (k0, nv_choices, .inl v_choices)), (h2, .inl (k1, nv_heights, .inl v_heights)), (h3, .inl (k2, nv_trail, .inl v_trail))])) (va_Qv (fun (u : Nat) => u = 0) (fun (_ : Nat) (t : State) => ∃ (ov_choiceCount : Int32), ∃ (oh1 : Nat), ∃ (ov_choices : Nat → Int32), ∃ (onv_choices : Nat), ∃ (oh2 : Nat), ∃ (ov_heights : Nat → Int32), ∃ (onv_heights : Nat), ∃ (q1 : Nat), ∃ (q2 : Nat), (Q ov_choiceCount oh1 ov_choices onv_choices oh2 ov_heights onv_heights) ∧ (gLn onv_choices onv_heights nv_trail q1 q2 ∧ q1 ≤ qc ∧ q2 ≤ qs ∧ t.heap.size + q1 ≤ sz + qc ∧ hsum t.heap + q2 ≤ su + qs) ∧ va_P (dC, dI) vwCl [(h0, .inr (4, oX1 v_steps (.ref h4) (.ref h5) v_wholeOnly v_start v_mode v_node v_place v_limit v_verdict (.ref h6) (.ref h7) (.ref h8) (.ref h9) (.ref oh1) (.ref oh2) ov_choiceCount (.ref h3) v_trailCount)), (oh1, .inl (k0, onv_choices, .inl ov_choices)), (oh2, .inl (k1, onv_heights, .inl ov_heights)), (h3, .inl (k2, nv_trail, .inl v_trail))] t.heap ∧ va_D (va_A [(h0, .inr (4, oX1 v_steps (.ref h4) (.ref h5) v_wholeOnly v_start v_mode v_node v_place v_limit v_verdict (.ref h6) (.ref h7) (.ref h8) (.ref h9) (.ref h1) (.ref h2) v_choiceCount (.ref h3) v_trailCount)), (h1, .inl (k0, nv_choices, .inl v_choices)), (h2, .inl (k1, nv_heights, .inl v_heights)), (h3, .inl (k2, nv_trail, .inl v_trail))] sz) [(h0, .inr (4, oX1 v_steps (.ref h4) (.ref h5) v_wholeOnly v_start v_mode v_node v_place v_limit v_verdict (.ref h6) (.ref h7) (.ref h8) (.ref h9) (.ref oh1) (.ref oh2) ov_choiceCount (.ref h3) v_trailCount)), (oh1, .inl (k0, onv_choices, .inl ov_choices)), (oh2, .inl (k1, onv_heights, .inl ov_heights)), (h3, .inl (k2, nv_trail, .inl v_trail))]) (va_A [(h0, .inr (4, oX1 v_steps (.ref h4) (.ref h5) v_wholeOnly v_start v_mode v_node v_place v_limit v_verdict (.ref h6) (.ref h7) (.ref h8) (.ref h9) (.ref h1) (.ref h2) v_choiceCount (.ref h3) v_trailCount)), (h1, .inl (k0, nv_choices, .inl v_choices)), (h2, .inl (k1, nv_heights, .inl v_heights)), (h3, .inl (k2, nv_trail, .inl v_trail))] sz)) qc qs (va_A [(h0, .inr (4, oX1 v_steps (.ref h4) (.ref h5) v_wholeOnly v_start v_mode v_node v_place v_limit v_verdict (.ref h6) (.ref h7) (.ref h8) (.ref h9) (.ref h1) (.ref h2) v_choiceCount (.ref h3) v_trailCount)), (h1, .inl (k0, nv_choices, .inl v_choices)), (h2, .inl (k1, nv_heights, .inl v_heights)), (h3, .inl (k2, nv_trail, .inl v_trail))] sz) := by
  refine Met.ofW (cc := cX1_keepChoice) (maxL := 3) (ret := none) (by decide) rfl ?_
  intro p e s m args below meth c s₁ B hml hv
  obtain ⟨rfl, hsz, hsu, hP, hK, hD0⟩ := hv
  have hx := B.exec
  have hb := B.bytes
  have hr := B.returns
  have hts := atoms_spec (ws := WS yX1_keepChoice cX1_keepChoice 3 none) B.pre
  have ht : ∀ w ∈ TW, w.before _ s = true := fun w h => hts w (List.mem_cons_of_mem _ h)
  have hown : s.vm.findClass "PatternWorkshop$GoingBack" = some m.cls := findClass_of_methodNamed B.named
  have hlocks := B.notSynchronized
  subst hsz
  subst hsu
  have hD := hD0.self (sz := s.heap.size)
  generalize hAe : va_A [(h0, .inr (4, oX1 v_steps (.ref h4) (.ref h5) v_wholeOnly v_start v_mode v_node v_place v_limit v_verdict (.ref h6) (.ref h7) (.ref h8) (.ref h9) (.ref h1) (.ref h2) v_choiceCount (.ref h3) v_trailCount)), (h1, .inl (k0, nv_choices, .inl v_choices)), (h2, .inl (k1, nv_heights, .inl v_heights)), (h3, .inl (k2, nv_trail, .inl v_trail))] s.heap.size = A at hD ⊢
  have hA : ∀ q : Nat, s.heap.size ≤ q → A q := fun q h => by rw [← hAe]; exact Or.inr h
  have hS : va_S A s.heap s.heap [] := va_S.rf
  have hP : va_P (dC, dI) vwCl [(h0, .inr (4, oX1 v_steps (.ref h4) (.ref h5) v_wholeOnly v_start v_mode v_node v_place v_limit v_verdict (.ref h6) (.ref h7) (.ref h8) (.ref h9) (.ref h1) (.ref h2) v_choiceCount (.ref h3) v_trailCount)), (h1, .inl (k0, nv_choices, .inl v_choices)), (h2, .inl (k1, nv_heights, .inl v_heights)), (h3, .inl (k2, nv_trail, .inl v_trail))] s.heap := hP
  have hl := lv_entry ([.ref h0, .int p1, .int p2]) (n := 3) (Nat.le_of_ble_eq_true rfl)
  rw [lg_entry_eq]
  generalize (lg_sl ([.ref h0, .int p1, .int p2]) ++ List.replicate (3 - (lg_sl ([.ref h0, .int p1, .int p2])).length) Slot.unset).toArray = ls at hl ⊢
  have hl : lv_has ls 3 [(0, .ref h0), (1, .int p1), (2, .int p2)] := hl
  clear hD0
  obtain ⟨QQ, hQQ⟩ : ∃ QQ, QQ = MQ below (va_Qv (fun (u : Nat) => u = 0) (fun (_ : Nat) (t : State) => ∃ (ov_choiceCount : Int32), ∃ (oh1 : Nat), ∃ (ov_choices : Nat → Int32), ∃ (onv_choices : Nat), ∃ (oh2 : Nat), ∃ (ov_heights : Nat → Int32), ∃ (onv_heights : Nat), ∃ (q1 : Nat), ∃ (q2 : Nat), (Q ov_choiceCount oh1 ov_choices onv_choices oh2 ov_heights onv_heights) ∧ (gLn onv_choices onv_heights nv_trail q1 q2 ∧ q1 ≤ qc ∧ q2 ≤ qs ∧ t.heap.size + q1 ≤ s.heap.size + qc ∧ hsum t.heap + q2 ≤ hsum s.heap + qs) ∧ va_P (dC, dI) vwCl [(h0, .inr (4, oX1 v_steps (.ref h4) (.ref h5) v_wholeOnly v_start v_mode v_node v_place v_limit v_verdict (.ref h6) (.ref h7) (.ref h8) (.ref h9) (.ref oh1) (.ref oh2) ov_choiceCount (.ref h3) v_trailCount)), (oh1, .inl (k0, onv_choices, .inl ov_choices)), (oh2, .inl (k1, onv_heights, .inl ov_heights)), (h3, .inl (k2, nv_trail, .inl v_trail))] t.heap ∧ va_D A [(h0, .inr (4, oX1 v_steps (.ref h4) (.ref h5) v_wholeOnly v_start v_mode v_node v_place v_limit v_verdict (.ref h6) (.ref h7) (.ref h8) (.ref h9) (.ref oh1) (.ref oh2) ov_choiceCount (.ref h3) v_trailCount)), (oh1, .inl (k0, onv_choices, .inl ov_choices)), (oh2, .inl (k1, onv_heights, .inl ov_heights)), (h3, .inl (k2, nv_trail, .inl v_trail))]) A) ([.ref h0, .int p1, .int p2]).toArray s qc qs A := ⟨_, rfl⟩
  show W p l e ({ frames := 2, cells := qc, slots := qs, locals := 62 } : Room) s m ([.ref h0, .int p1, .int p2]).toArray below meth c s.heap [] 0 0 (MQ below (va_Qv (fun (u : Nat) => u = 0) (fun (_ : Nat) (t : State) => ∃ (ov_choiceCount : Int32), ∃ (oh1 : Nat), ∃ (ov_choices : Nat → Int32), ∃ (onv_choices : Nat), ∃ (oh2 : Nat), ∃ (ov_heights : Nat → Int32), ∃ (onv_heights : Nat), ∃ (q1 : Nat), ∃ (q2 : Nat), (Q ov_choiceCount oh1 ov_choices onv_choices oh2 ov_heights onv_heights) ∧ (gLn onv_choices onv_heights nv_trail q1 q2 ∧ q1 ≤ qc ∧ q2 ≤ qs ∧ t.heap.size + q1 ≤ s.heap.size + qc ∧ hsum t.heap + q2 ≤ hsum s.heap + qs) ∧ va_P (dC, dI) vwCl [(h0, .inr (4, oX1 v_steps (.ref h4) (.ref h5) v_wholeOnly v_start v_mode v_node v_place v_limit v_verdict (.ref h6) (.ref h7) (.ref h8) (.ref h9) (.ref oh1) (.ref oh2) ov_choiceCount (.ref h3) v_trailCount)), (oh1, .inl (k0, onv_choices, .inl ov_choices)), (oh2, .inl (k1, onv_heights, .inl ov_heights)), (h3, .inl (k2, nv_trail, .inl v_trail))] t.heap ∧ va_D A [(h0, .inr (4, oX1 v_steps (.ref h4) (.ref h5) v_wholeOnly v_start v_mode v_node v_place v_limit v_verdict (.ref h6) (.ref h7) (.ref h8) (.ref h9) (.ref oh1) (.ref oh2) ov_choiceCount (.ref h3) v_trailCount)), (oh1, .inl (k0, onv_choices, .inl ov_choices)), (oh2, .inl (k1, onv_heights, .inl ov_heights)), (h3, .inl (k2, nv_trail, .inl v_trail))]) A) ([.ref h0, .int p1, .int p2]).toArray s qc qs A) (F0 m 0 ls [])
  rw [← hQQ]
  refine W_0 (qc := qc) (qs := qs) ?_
  have hq1 : qc ≤ qc := Nat.le_refl _
  have hq2 : qs ≤ qs := Nat.le_refl _
  unfold w_X1_keepChoice at w
  refine lv_aload_n hx hb dX1_keepChoice_0 rfl (lv_at hl 0 rfl) ?_
  refine va_get (D := (dC, dI)) (ci := 4) (v := .int v_choiceCount) (C := RX1) (T := TX1) (N := 19) hx hb ht inX1 hown hK hP 0 rfl rfl 16 (by decide) (ht _ tw_537) (fun _ h9 => h9) rfl dX1_keepChoice_1 ?_
  refine lv_aload_n hx hb dX1_keepChoice_4 rfl (lv_at hl 0 rfl) ?_
  refine va_get (D := (dC, dI)) (ci := 4) (v := .ref h1) (C := RX1) (T := TX1) (N := 19) hx hb ht inX1 hown hK hP 0 rfl rfl 14 (by decide) (ht _ tw_535) (fun _ h9 => h9) rfl dX1_keepChoice_5 ?_
  refine va_alen hx hb hK hP 1 0 rfl rfl rfl dX1_keepChoice_8 ?_
  refine lv_topi (fun x_1 ex_1 => ?_)
  have ex_1 : x_1 = Int32.ofNat nv_choices := ex_1
  have hn_2 : nv_choices ≤ 524288 := by have h9 := gLn_b hL; omega
  have k_56 : ∀ (v_choiceCount_56 : Int32) (v_choices_56 : Nat → Int32) (v_heights_56 : Nat → Int32), ∀ (H_b56 : Heap) (locs_b56 : List Loc) (ls_b56 : Array Slot) (q1_b56 q2_b56 : Nat), w_X1_keepChoice_56 p1 p2 v_place v_trailCount nv_choices nv_heights h1 h2 Q v_choiceCount_56 v_choices_56 v_heights_56 → va_P (dC, dI) vwCl [(h0, .inr (4, oX1 v_steps (.ref h4) (.ref h5) v_wholeOnly v_start v_mode v_node v_place v_limit v_verdict (.ref h6) (.ref h7) (.ref h8) (.ref h9) (.ref h1) (.ref h2) v_choiceCount_56 (.ref h3) v_trailCount)), (h1, .inl (k0, nv_choices, .inl v_choices_56)), (h2, .inl (k1, nv_heights, .inl v_heights_56)), (h3, .inl (k2, nv_trail, .inl v_trail))] H_b56 → va_D A [(h0, .inr (4, oX1 v_steps (.ref h4) (.ref h5) v_wholeOnly v_start v_mode v_node v_place v_limit v_verdict (.ref h6) (.ref h7) (.ref h8) (.ref h9) (.ref h1) (.ref h2) v_choiceCount_56 (.ref h3) v_trailCount)), (h1, .inl (k0, nv_choices, .inl v_choices_56)), (h2, .inl (k1, nv_heights, .inl v_heights_56)), (h3, .inl (k2, nv_trail, .inl v_trail))] → va_S A s.heap H_b56 locs_b56 → lv_has ls_b56 3 [(0, .ref h0), (1, .int p1), (2, .int p2)] → gLn nv_choices nv_heights nv_trail q1_b56 q2_b56 → q1_b56 ≤ qc → q2_b56 ≤ qs → W p l e ({ frames := 2, cells := qc, slots := qs, locals := 62 } : Room) s m ([.ref h0, .int p1, .int p2]).toArray below meth c H_b56 locs_b56 (qc - q1_b56) (qs - q2_b56) QQ (F0 m 56 ls_b56 []) := by
    intro v_choiceCount_56 v_choices_56 v_heights_56 H_b56 locs_b56 ls_b56 q1_b56 q2_b56 w_b56 hP_b56 hD_b56 hS_b56 hl_b56 hL_b56 hq1_b56 hq2_b56
    unfold w_X1_keepChoice_56 at w_b56
    refine lv_aload_n hx hb dX1_keepChoice_56 rfl (lv_at hl_b56 0 rfl) ?_
    refine va_get (D := (dC, dI)) (ci := 4) (v := .int v_choiceCount_56) (C := RX1) (T := TX1) (N := 19) hx hb ht inX1 hown hK hP_b56 0 rfl rfl 16 (by decide) (ht _ tw_537) (fun _ h9 => h9) rfl dX1_keepChoice_57 ?_
    have k_133 : ∀ (v_choiceCount_133 : Int32) (v_choices_133 : Nat → Int32) (v_heights_133 : Nat → Int32), ∀ (H_b133 : Heap) (locs_b133 : List Loc) (ls_b133 : Array Slot) (q1_b133 q2_b133 : Nat), w_X1_keepChoice_133 nv_choices nv_heights h1 h2 Q v_choiceCount_133 v_choices_133 v_heights_133 → va_P (dC, dI) vwCl [(h0, .inr (4, oX1 v_steps (.ref h4) (.ref h5) v_wholeOnly v_start v_mode v_node v_place v_limit v_verdict (.ref h6) (.ref h7) (.ref h8) (.ref h9) (.ref h1) (.ref h2) v_choiceCount_133 (.ref h3) v_trailCount)), (h1, .inl (k0, nv_choices, .inl v_choices_133)), (h2, .inl (k1, nv_heights, .inl v_heights_133)), (h3, .inl (k2, nv_trail, .inl v_trail))] H_b133 → va_D A [(h0, .inr (4, oX1 v_steps (.ref h4) (.ref h5) v_wholeOnly v_start v_mode v_node v_place v_limit v_verdict (.ref h6) (.ref h7) (.ref h8) (.ref h9) (.ref h1) (.ref h2) v_choiceCount_133 (.ref h3) v_trailCount)), (h1, .inl (k0, nv_choices, .inl v_choices_133)), (h2, .inl (k1, nv_heights, .inl v_heights_133)), (h3, .inl (k2, nv_trail, .inl v_trail))] → va_S A s.heap H_b133 locs_b133 → lv_has ls_b133 3 [] → gLn nv_choices nv_heights nv_trail q1_b133 q2_b133 → q1_b133 ≤ qc → q2_b133 ≤ qs → W p l e ({ frames := 2, cells := qc, slots := qs, locals := 62 } : Room) s m ([.ref h0, .int p1, .int p2]).toArray below meth c H_b133 locs_b133 (qc - q1_b133) (qs - q2_b133) QQ (F0 m 133 ls_b133 []) := by
      intro v_choiceCount_133 v_choices_133 v_heights_133 H_b133 locs_b133 ls_b133 q1_b133 q2_b133 w_b133 hP_b133 hD_b133 hS_b133 hl_b133 hL_b133 hq1_b133 hq2_b133
      unfold w_X1_keepChoice_133 at w_b133
      have hP_3 := hP_b133.sub (ws' := [(h0, .inr (4, oX1 v_steps (.ref h4) (.ref h5) v_wholeOnly v_start v_mode v_node v_place v_limit v_verdict (.ref h6) (.ref h7) (.ref h8) (.ref h9) (.ref h1) (.ref h2) v_choiceCount_133 (.ref h3) v_trailCount)), (h1, .inl (k0, nv_choices, .inl v_choices_133)), (h2, .inl (k1, nv_heights, .inl v_heights_133)), (h3, .inl (k2, nv_trail, .inl v_trail))]) [0, 1, 2, 3] rfl
      have hD_3 := hD_b133.sub (ws' := [(h0, .inr (4, oX1 v_steps (.ref h4) (.ref h5) v_wholeOnly v_start v_mode v_node v_place v_limit v_verdict (.ref h6) (.ref h7) (.ref h8) (.ref h9) (.ref h1) (.ref h2) v_choiceCount_133 (.ref h3) v_trailCount)), (h1, .inl (k0, nv_choices, .inl v_choices_133)), (h2, .inl (k1, nv_heights, .inl v_heights_133)), (h3, .inl (k2, nv_trail, .inl v_trail))]) [0, 1, 2, 3] (by decide) rfl
      refine W_gain (fun ga_4 gb_4 gc_4 gd_4 => ?_)
      refine W.widen (k := qc) (n := qs) (by omega) (by omega) ?_
      rw [hQQ]
      exact W.vret hx hb hr (fun t9 ht9 hW9 => ⟨⟨0, rfl, rfl, ⟨v_choiceCount_133, h1, v_choices_133, nv_choices, h2, v_heights_133, nv_heights, q1_b133, q2_b133, w_b133, ⟨hL_b133, hq1_b133, hq2_b133, by rw [ht9]; omega, by rw [ht9]; omega⟩, by rw [ht9]; exact hP_3, hD_3⟩⟩, hS_b133.F ht9⟩) hS_b133.2.2 dX1_keepChoice_133
    refine lv_if_lt (tgt := 133) hx hb dX1_keepChoice_60 (by decide) (fun c_5 => ?_) (fun c_5 => ?_)
    · exact k_133 v_choiceCount_56 v_choices_56 v_heights_56 _ _ _ _ _ (w_b56.1 c_5) hP_b56 hD_b56 hS_b56 (lv_sub hl_b56 [] rfl) hL_b56 hq1_b56 hq2_b56
    · refine lv_aload_n hx hb dX1_keepChoice_63 rfl (lv_at hl_b56 0 rfl) ?_
      refine va_get (D := (dC, dI)) (ci := 4) (v := .int v_choiceCount_56) (C := RX1) (T := TX1) (N := 19) hx hb ht inX1 hown hK hP_b56 0 rfl rfl 16 (by decide) (ht _ tw_537) (fun _ h9 => h9) rfl dX1_keepChoice_64 ?_
      refine lv_aload_n hx hb dX1_keepChoice_67 rfl (lv_at hl_b56 0 rfl) ?_
      refine va_get (D := (dC, dI)) (ci := 4) (v := .ref h1) (C := RX1) (T := TX1) (N := 19) hx hb ht inX1 hown hK hP_b56 0 rfl rfl 14 (by decide) (ht _ tw_535) (fun _ h9 => h9) rfl dX1_keepChoice_68 ?_
      refine va_alen hx hb hK hP_b56 1 0 rfl rfl rfl dX1_keepChoice_71 ?_
      refine lv_topi (fun x_6 ex_6 => ?_)
      have ex_6 : x_6 = Int32.ofNat nv_choices := ex_6
      have hn_7 : nv_choices ≤ 524288 := by have h9 := gLn_b hL_b56; omega
      refine lv_icmp_ge (tgt := 133) hx hb dX1_keepChoice_72 (by decide) (fun c_8 => ?_) (fun c_8 => ?_)
      · exact k_133 v_choiceCount_56 v_choices_56 v_heights_56 _ _ _ _ _ ((w_b56.2 c_5 x_6 ex_6 hn_7).1 c_8) hP_b56 hD_b56 hS_b56 (lv_sub hl_b56 [] rfl) hL_b56 hq1_b56 hq2_b56
      · refine lv_aload_n hx hb dX1_keepChoice_75 rfl (lv_at hl_b56 0 rfl) ?_
        refine va_get (D := (dC, dI)) (ci := 4) (v := .int v_choiceCount_56) (C := RX1) (T := TX1) (N := 19) hx hb ht inX1 hown hK hP_b56 0 rfl rfl 16 (by decide) (ht _ tw_537) (fun _ h9 => h9) rfl dX1_keepChoice_76 ?_
        refine lv_aload_n hx hb dX1_keepChoice_79 rfl (lv_at hl_b56 0 rfl) ?_
        refine va_get (D := (dC, dI)) (ci := 4) (v := .ref h2) (C := RX1) (T := TX1) (N := 19) hx hb ht inX1 hown hK hP_b56 0 rfl rfl 15 (by decide) (ht _ tw_536) (fun _ h9 => h9) rfl dX1_keepChoice_80 ?_
        refine va_alen hx hb hK hP_b56 2 1 rfl rfl rfl dX1_keepChoice_83 ?_
        refine lv_topi (fun x_9 ex_9 => ?_)
        have ex_9 : x_9 = Int32.ofNat nv_heights := ex_9
        have hn_10 : nv_heights ≤ 524288 := by have h9 := gLn_b hL_b56; omega
        have w_11 := (((w_b56.2 c_5 x_6 ex_6 hn_7).2 c_8) x_9 ex_9) hn_10
        refine lv_icmp_ge (tgt := 133) hx hb dX1_keepChoice_84 (by decide) (fun c_12 => ?_) (fun c_12 => ?_)
        · exact k_133 v_choiceCount_56 v_choices_56 v_heights_56 _ _ _ _ _ (w_11.1 c_12) hP_b56 hD_b56 hS_b56 (lv_sub hl_b56 [] rfl) hL_b56 hq1_b56 hq2_b56
        · refine lv_aload_n hx hb dX1_keepChoice_87 rfl (lv_at hl_b56 0 rfl) ?_
          refine va_get (D := (dC, dI)) (ci := 4) (v := .ref h1) (C := RX1) (T := TX1) (N := 19) hx hb ht inX1 hown hK hP_b56 0 rfl rfl 14 (by decide) (ht _ tw_535) (fun _ h9 => h9) rfl dX1_keepChoice_88 ?_
          refine lv_aload_n hx hb dX1_keepChoice_91 rfl (lv_at hl_b56 0 rfl) ?_
          refine va_get (D := (dC, dI)) (ci := 4) (v := .int v_choiceCount_56) (C := RX1) (T := TX1) (N := 19) hx hb ht inX1 hown hK hP_b56 0 rfl rfl 16 (by decide) (ht _ tw_537) (fun _ h9 => h9) rfl dX1_keepChoice_92 ?_
          refine lv_iload_n hx hb dX1_keepChoice_95 rfl (lv_at hl_b56 2 rfl) ?_
          refine lv_iconst (v := 4) hx hb dX1_keepChoice_96 (by decide) ?_
          refine lv_imul hx hb dX1_keepChoice_97 ?_
          refine lv_topi (fun x_13 ex_13 => ?_)
          have ex_13 : x_13 = p2 * (4 : Int32) := ex_13
          refine lv_iload_n hx hb dX1_keepChoice_98 rfl (lv_at hl_b56 1 rfl) ?_
          refine lv_iadd hx hb dX1_keepChoice_99 ?_
          refine lv_topi (fun x_14 ex_14 => ?_)
          have ex_14 : x_14 = x_13 + p1 := ex_14
          refine lv_sipush (v := 128) hx hb dX1_keepChoice_100 (by decide) ?_
          refine lv_imul hx hb dX1_keepChoice_103 ?_
          refine lv_topi (fun x_15 ex_15 => ?_)
          have ex_15 : x_15 = x_14 * (128 : Int32) := ex_15
          refine lv_aload_n hx hb dX1_keepChoice_104 rfl (lv_at hl_b56 0 rfl) ?_
          refine va_get (D := (dC, dI)) (ci := 4) (v := .int v_place) (C := RX1) (T := TX1) (N := 19) hx hb ht inX1 hown hK hP_b56 0 rfl rfl 7 (by decide) (ht _ tw_528) (fun _ h9 => h9) rfl dX1_keepChoice_105 ?_
          refine lv_iadd hx hb dX1_keepChoice_108 ?_
          refine lv_topi (fun x_16 ex_16 => ?_)
          have ex_16 : x_16 = x_15 + v_place := ex_16
          have w_17 := w_11.2 c_12 x_13 ex_13 x_14 ex_14 x_15 ex_15 x_16 ex_16
          refine va_iast hx hb hK hP_b56 hD_b56 hS_b56 1 0 rfl rfl (i := v_choiceCount_56) w_17.1 dX1_keepChoice_109 (fun H_18 locs_18 hP_18 hD_18 hS_18 => ?_)
          obtain ⟨g_18, hg_18⟩ : ∃ g : Nat → Int32, g = upd v_choices_56 v_choiceCount_56.toNatClampNeg x_16 := ⟨_, rfl⟩
          have hP_18 : va_P (dC, dI) vwCl [(h0, .inr (4, oX1 v_steps (.ref h4) (.ref h5) v_wholeOnly v_start v_mode v_node v_place v_limit v_verdict (.ref h6) (.ref h7) (.ref h8) (.ref h9) (.ref h1) (.ref h2) v_choiceCount_56 (.ref h3) v_trailCount)), (h1, .inl (k0, nv_choices, .inl g_18)), (h2, .inl (k1, nv_heights, .inl v_heights_56)), (h3, .inl (k2, nv_trail, .inl v_trail))] H_18 := by rw [hg_18]; exact hP_18
          have hD_18 : va_D A [(h0, .inr (4, oX1 v_steps (.ref h4) (.ref h5) v_wholeOnly v_start v_mode v_node v_place v_limit v_verdict (.ref h6) (.ref h7) (.ref h8) (.ref h9) (.ref h1) (.ref h2) v_choiceCount_56 (.ref h3) v_trailCount)), (h1, .inl (k0, nv_choices, .inl g_18)), (h2, .inl (k1, nv_heights, .inl v_heights_56)), (h3, .inl (k2, nv_trail, .inl v_trail))] := by rw [hg_18]; exact hD_18
          refine lv_aload_n hx hb dX1_keepChoice_110 rfl (lv_at hl_b56 0 rfl) ?_
          refine va_get (D := (dC, dI)) (ci := 4) (v := .ref h2) (C := RX1) (T := TX1) (N := 19) hx hb ht inX1 hown hK hP_18 0 rfl rfl 15 (by decide) (ht _ tw_536) (fun _ h9 => h9) rfl dX1_keepChoice_111 ?_
          refine lv_aload_n hx hb dX1_keepChoice_114 rfl (lv_at hl_b56 0 rfl) ?_
          refine va_get (D := (dC, dI)) (ci := 4) (v := .int v_choiceCount_56) (C := RX1) (T := TX1) (N := 19) hx hb ht inX1 hown hK hP_18 0 rfl rfl 16 (by decide) (ht _ tw_537) (fun _ h9 => h9) rfl dX1_keepChoice_115 ?_
          refine lv_aload_n hx hb dX1_keepChoice_118 rfl (lv_at hl_b56 0 rfl) ?_
          refine va_get (D := (dC, dI)) (ci := 4) (v := .int v_trailCount) (C := RX1) (T := TX1) (N := 19) hx hb ht inX1 hown hK hP_18 0 rfl rfl 18 (by decide) (ht _ tw_539) (fun _ h9 => h9) rfl dX1_keepChoice_119 ?_
          refine va_iast hx hb hK hP_18 hD_18 hS_18 2 1 rfl rfl (i := v_choiceCount_56) (w_17.2 g_18 hg_18).1 dX1_keepChoice_122 (fun H_19 locs_19 hP_19 hD_19 hS_19 => ?_)
          obtain ⟨g_19, hg_19⟩ : ∃ g : Nat → Int32, g = upd v_heights_56 v_choiceCount_56.toNatClampNeg v_trailCount := ⟨_, rfl⟩
          have hP_19 : va_P (dC, dI) vwCl [(h0, .inr (4, oX1 v_steps (.ref h4) (.ref h5) v_wholeOnly v_start v_mode v_node v_place v_limit v_verdict (.ref h6) (.ref h7) (.ref h8) (.ref h9) (.ref h1) (.ref h2) v_choiceCount_56 (.ref h3) v_trailCount)), (h1, .inl (k0, nv_choices, .inl g_18)), (h2, .inl (k1, nv_heights, .inl g_19)), (h3, .inl (k2, nv_trail, .inl v_trail))] H_19 := by rw [hg_19]; exact hP_19
          have hD_19 : va_D A [(h0, .inr (4, oX1 v_steps (.ref h4) (.ref h5) v_wholeOnly v_start v_mode v_node v_place v_limit v_verdict (.ref h6) (.ref h7) (.ref h8) (.ref h9) (.ref h1) (.ref h2) v_choiceCount_56 (.ref h3) v_trailCount)), (h1, .inl (k0, nv_choices, .inl g_18)), (h2, .inl (k1, nv_heights, .inl g_19)), (h3, .inl (k2, nv_trail, .inl v_trail))] := by rw [hg_19]; exact hD_19
          refine lv_aload_n hx hb dX1_keepChoice_123 rfl (lv_at hl_b56 0 rfl) ?_
          refine lv_dup hx hb dX1_keepChoice_124 rfl ?_
          refine va_get (D := (dC, dI)) (ci := 4) (v := .int v_choiceCount_56) (C := RX1) (T := TX1) (N := 19) hx hb ht inX1 hown hK hP_19 0 rfl rfl 16 (by decide) (ht _ tw_537) (fun _ h9 => h9) rfl dX1_keepChoice_125 ?_
          refine lv_iconst (v := 1) hx hb dX1_keepChoice_128 (by decide) ?_
          refine lv_iadd hx hb dX1_keepChoice_129 ?_
          refine lv_topi (fun x_20 ex_20 => ?_)
          have ex_20 : x_20 = v_choiceCount_56 + (1 : Int32) := ex_20
          refine va_put (D := (dC, dI)) (ci := 4) (v := .int x_20) (ty := .int) (C := RX1) (T := TX1) (N := 19) hx hb ht inX1 tyX1 tyX1_ok nmX1 hown hK hP_19 hD_19 hS_19 0 rfl rfl 16 (by decide) (ht _ tw_537) (fun _ h9 => h9) rfl (by decide +kernel) rfl rfl (Nat.le_of_ble_eq_true rfl) dX1_keepChoice_130 (fun H_21 locs_21 hP_21 hD_21 hS_21 => ?_)
          have hP_21 : va_P (dC, dI) vwCl [(h0, .inr (4, oX1 v_steps (.ref h4) (.ref h5) v_wholeOnly v_start v_mode v_node v_place v_limit v_verdict (.ref h6) (.ref h7) (.ref h8) (.ref h9) (.ref h1) (.ref h2) x_20 (.ref h3) v_trailCount)), (h1, .inl (k0, nv_choices, .inl g_18)), (h2, .inl (k1, nv_heights, .inl g_19)), (h3, .inl (k2, nv_trail, .inl v_trail))] H_21 := hP_21
          have hD_21 : va_D A [(h0, .inr (4, oX1 v_steps (.ref h4) (.ref h5) v_wholeOnly v_start v_mode v_node v_place v_limit v_verdict (.ref h6) (.ref h7) (.ref h8) (.ref h9) (.ref h1) (.ref h2) x_20 (.ref h3) v_trailCount)), (h1, .inl (k0, nv_choices, .inl g_18)), (h2, .inl (k1, nv_heights, .inl g_19)), (h3, .inl (k2, nv_trail, .inl v_trail))] := hD_21
          have w_22 := (((w_17.2 g_18 hg_18).2) g_19 hg_19) x_20 ex_20
          exact k_133 x_20 g_18 g_19 _ _ _ _ _ w_22 hP_21 hD_21 hS_21 (lv_sub hl_b56 [] rfl) hL_b56 hq1_b56 hq2_b56
  refine lv_icmp_lt (tgt := 56) hx hb dX1_keepChoice_9 (by decide) (fun c_23 => ?_) (fun c_23 => ?_)
  · exact k_56 v_choiceCount v_choices v_heights _ _ _ _ _ ((w x_1 ex_1 hn_2).1 c_23) hP hD hS (lv_sub hl [0, 1, 2] rfl) hL hq1 hq2
  · refine lv_aload_n hx hb dX1_keepChoice_12 rfl (lv_at hl 0 rfl) ?_
    refine va_get (D := (dC, dI)) (ci := 4) (v := .ref h1) (C := RX1) (T := TX1) (N := 19) hx hb ht inX1 hown hK hP 0 rfl rfl 14 (by decide) (ht _ tw_535) (fun _ h9 => h9) rfl dX1_keepChoice_13 ?_
    refine va_alen hx hb hK hP 1 0 rfl rfl rfl dX1_keepChoice_16 ?_
    refine lv_topi (fun x_24 ex_24 => ?_)
    have ex_24 : x_24 = Int32.ofNat nv_choices := ex_24
    have hn_25 : nv_choices ≤ 524288 := by have h9 := gLn_b hL; omega
    refine lv_ldc hx hb hown (ht _ tw_1644) dX1_keepChoice_17 ?_
    have w_26 := (((w x_1 ex_1 hn_2).2 c_23) x_24 ex_24) hn_25
    refine lv_icmp_ge (tgt := 56) hx hb dX1_keepChoice_19 (by decide) (fun c_27 => ?_) (fun c_27 => ?_)
    · exact k_56 v_choiceCount v_choices v_heights _ _ _ _ _ (w_26.1 c_27) hP hD hS (lv_sub hl [0, 1, 2] rfl) hL hq1 hq2
    · refine lv_aload_n hx hb dX1_keepChoice_22 rfl (lv_at hl 0 rfl) ?_
      refine lv_aload_n hx hb dX1_keepChoice_23 rfl (lv_at hl 0 rfl) ?_
      refine va_get (D := (dC, dI)) (ci := 4) (v := .ref h1) (C := RX1) (T := TX1) (N := 19) hx hb ht inX1 hown hK hP 0 rfl rfl 14 (by decide) (ht _ tw_535) (fun _ h9 => h9) rfl dX1_keepChoice_24 ?_
      refine lv_aload_n hx hb dX1_keepChoice_27 rfl (lv_at hl 0 rfl) ?_
      refine va_get (D := (dC, dI)) (ci := 4) (v := .ref h1) (C := RX1) (T := TX1) (N := 19) hx hb ht inX1 hown hK hP 0 rfl rfl 14 (by decide) (ht _ tw_535) (fun _ h9 => h9) rfl dX1_keepChoice_28 ?_
      refine va_alen hx hb hK hP 1 0 rfl rfl rfl dX1_keepChoice_31 ?_
      refine lv_topi (fun x_28 ex_28 => ?_)
      have ex_28 : x_28 = Int32.ofNat nv_choices := ex_28
      have hn_29 : nv_choices ≤ 524288 := by have h9 := gLn_b hL; omega
      refine lv_iconst (v := 2) hx hb dX1_keepChoice_32 (by decide) ?_
      refine lv_imul hx hb dX1_keepChoice_33 ?_
      refine lv_topi (fun x_30 ex_30 => ?_)
      have ex_30 : x_30 = x_28 * (2 : Int32) := ex_30
      have w_32 := (w_26.2 c_27 x_28 ex_28 hn_29 x_30 ex_30).2
      obtain ⟨hL_31, hc_31, hs_31⟩ := gLn_c hL w_32.2.1
      have hb_31 := gLn_b hL
      have hcp_31 := cpy_ok (n := nv_choices) (N := 2 * nv_choices) w_32.1 (w_26.2 c_27 x_28 ex_28 hn_29 x_30 ex_30).1 (by omega) (by omega)
      have hPc_31 := hP.sub (ws' := [(h1, .inl (k0, nv_choices, .inl v_choices))]) [1] rfl
      have hDc_31 := hD.sub (ws' := [(h1, .inl (k0, nv_choices, .inl v_choices))]) [1] (by decide) rfl
      have hKc_31 := hK.sub (tys' := [(k0, .int)]) [0] rfl
      have hFc_31 := va_free (wc := [(h1, .inl (k0, nv_choices, .inl v_choices))]) hD hS hA [1] rfl
      refine va_callr (va_runS (As := [.ref h1, .int x_30]) (rest := [.ref h0]) ⟨hx, hb, hml, hown, ht⟩ (mt_copyOf l dC dI h1 k0 x_30 nv_choices (2 * nv_choices) v_choices hcp_31.1 (w_26.2 c_27 x_28 ex_28 hn_29 x_30 ex_30).1 w_32.1 (by omega) hcp_31.2.1 hcp_31.2.2.1 hcp_31.2.2.2 s.heap.size) (va_cwS 2 ht (goodSS tw_1645 tw_1646 tw_250 gw_J7_copyOf_59c91) rfl rfl rfl (by decide +kernel) ⟨Nat.le_of_ble_eq_true rfl, Nat.le_of_ble_eq_true rfl⟩) ⟨fun a U g mk q => by obtain ⟨q0, q1, qP, qK, qD⟩ := q; exact ⟨q0, q1, qP, va_K.moved (u := U) (U := U.calling g mk a) (Vm.Alike.refl U.vm) qK, qD⟩, fun U hU hW => ⟨rfl, by rw [hU], by rw [hU]; exact hPc_31, va_K.moved hW.alike hKc_31, hDc_31.weaken (fun _ _ _ _ => trivial)⟩⟩ rfl rfl hl.1 rfl (lv_room (Nat.le_of_ble_eq_true rfl)) dX1_keepChoice_34 ⟨by dsimp only; omega, by dsimp only; omega⟩) hS (fun q _ h => hFc_31 q h) hFc_31 (fun u_31 ra_31 t_31 H_31 locs_31 ht_31 hvm_31 hw_31 hB_31 hz_31 hk_31 hS_31 => ?_)
      obtain ⟨g_31, hP1_31, hD1_31⟩ := hB_31
      rw [ht_31] at hP1_31
      obtain ⟨hP_31, hD_31⟩ := va_join (wr := [(h0, .inr (4, oX1 v_steps (.ref h4) (.ref h5) v_wholeOnly v_start v_mode v_node v_place v_limit v_verdict (.ref h6) (.ref h7) (.ref h8) (.ref h9) (.ref h1) (.ref h2) v_choiceCount (.ref h3) v_trailCount)), (h2, .inl (k1, nv_heights, .inl v_heights)), (h3, .inl (k2, nv_trail, .inl v_trail))]) (w1 := [(h1, .inl (k0, nv_choices, .inl v_choices)), (ra_31, .inl (k0, (2 * nv_choices), .inl g_31))]) hP hD [1] [0, 2, 3] rfl rfl (by decide) (by decide) hk_31 hFc_31 hP1_31 hD1_31
      have hP_31 := hP_31.sub (ws' := [(h0, .inr (4, oX1 v_steps (.ref h4) (.ref h5) v_wholeOnly v_start v_mode v_node v_place v_limit v_verdict (.ref h6) (.ref h7) (.ref h8) (.ref h9) (.ref h1) (.ref h2) v_choiceCount (.ref h3) v_trailCount)), (h1, .inl (k0, nv_choices, .inl v_choices)), (h2, .inl (k1, nv_heights, .inl v_heights)), (h3, .inl (k2, nv_trail, .inl v_trail)), (ra_31, .inl (k0, (2 * nv_choices), .inl g_31))]) [0, 3, 1, 2, 4] rfl
      have hD_31 := hD_31.sub (ws' := [(h0, .inr (4, oX1 v_steps (.ref h4) (.ref h5) v_wholeOnly v_start v_mode v_node v_place v_limit v_verdict (.ref h6) (.ref h7) (.ref h8) (.ref h9) (.ref h1) (.ref h2) v_choiceCount (.ref h3) v_trailCount)), (h1, .inl (k0, nv_choices, .inl v_choices)), (h2, .inl (k1, nv_heights, .inl v_heights)), (h3, .inl (k2, nv_trail, .inl v_trail)), (ra_31, .inl (k0, (2 * nv_choices), .inl g_31))]) [0, 3, 1, 2, 4] (by decide) rfl
      clear hPc_31 hDc_31 hKc_31 hFc_31 hP1_31 hD1_31 hk_31 hz_31
      refine W_eqc (c2 := qc - (qc - 1)) (s2 := qs - (qs - 2 * nv_choices)) (by omega) (by omega) ?_
      have hq1_31 : (qc - 1) ≤ qc := by omega
      have hq2_31 : (qs - 2 * nv_choices) ≤ qs := by omega
      refine va_put (D := (dC, dI)) (ci := 4) (v := .ref ra_31) (ty := .array .int) (C := RX1) (T := TX1) (N := 19) hx hb ht inX1 tyX1 tyX1_ok nmX1 hown hK hP_31 hD_31 hS_31 0 rfl rfl 14 (by decide) (ht _ tw_535) (fun _ h9 => h9) rfl (by decide +kernel) rfl rfl (Nat.le_of_ble_eq_true rfl) dX1_keepChoice_37 (fun H_33 locs_33 hP_33 hD_33 hS_33 => ?_)
      have hP_33 : va_P (dC, dI) vwCl [(h0, .inr (4, oX1 v_steps (.ref h4) (.ref h5) v_wholeOnly v_start v_mode v_node v_place v_limit v_verdict (.ref h6) (.ref h7) (.ref h8) (.ref h9) (.ref ra_31) (.ref h2) v_choiceCount (.ref h3) v_trailCount)), (h1, .inl (k0, nv_choices, .inl v_choices)), (h2, .inl (k1, nv_heights, .inl v_heights)), (h3, .inl (k2, nv_trail, .inl v_trail)), (ra_31, .inl (k0, (2 * nv_choices), .inl g_31))] H_33 := hP_33
      have hD_33 : va_D A [(h0, .inr (4, oX1 v_steps (.ref h4) (.ref h5) v_wholeOnly v_start v_mode v_node v_place v_limit v_verdict (.ref h6) (.ref h7) (.ref h8) (.ref h9) (.ref ra_31) (.ref h2) v_choiceCount (.ref h3) v_trailCount)), (h1, .inl (k0, nv_choices, .inl v_choices)), (h2, .inl (k1, nv_heights, .inl v_heights)), (h3, .inl (k2, nv_trail, .inl v_trail)), (ra_31, .inl (k0, (2 * nv_choices), .inl g_31))] := hD_33
      refine lv_aload_n hx hb dX1_keepChoice_40 rfl (lv_at hl 0 rfl) ?_
      refine lv_aload_n hx hb dX1_keepChoice_41 rfl (lv_at hl 0 rfl) ?_
      refine va_get (D := (dC, dI)) (ci := 4) (v := .ref h2) (C := RX1) (T := TX1) (N := 19) hx hb ht inX1 hown hK hP_33 0 rfl rfl 15 (by decide) (ht _ tw_536) (fun _ h9 => h9) rfl dX1_keepChoice_42 ?_
      refine lv_aload_n hx hb dX1_keepChoice_45 rfl (lv_at hl 0 rfl) ?_
      refine va_get (D := (dC, dI)) (ci := 4) (v := .ref ra_31) (C := RX1) (T := TX1) (N := 19) hx hb ht inX1 hown hK hP_33 0 rfl rfl 14 (by decide) (ht _ tw_535) (fun _ h9 => h9) rfl dX1_keepChoice_46 ?_
      refine va_alen hx hb hK hP_33 4 0 rfl rfl rfl dX1_keepChoice_49 ?_
      refine lv_topi (fun x_34 ex_34 => ?_)
      have ex_34 : x_34 = Int32.ofNat (2 * nv_choices) := ex_34
      have hn_35 : (2 * nv_choices) ≤ 524288 := by have h9 := gLn_b hL; omega
      have hcp_36 := cpy_ok (n := nv_heights) (N := 2 * nv_heights) ((w_32.2.2 g_31 ra_31 x_34 ex_34 hn_35).2).1 (w_32.2.2 g_31 ra_31 x_34 ex_34 hn_35).1 (by omega) (by omega)
      have hPc_36 := hP_33.sub (ws' := [(h2, .inl (k1, nv_heights, .inl v_heights))]) [2] rfl
      have hDc_36 := hD_33.sub (ws' := [(h2, .inl (k1, nv_heights, .inl v_heights))]) [2] (by decide) rfl
      have hKc_36 := hK.sub (tys' := [(k1, .int)]) [1] rfl
      have hFc_36 := va_free (wc := [(h2, .inl (k1, nv_heights, .inl v_heights))]) hD_33 hS_33 hA [2] rfl
      refine va_callr (va_runS (As := [.ref h2, .int x_34]) (rest := [.ref h0]) ⟨hx, hb, hml, hown, ht⟩ (mt_copyOf l dC dI h2 k1 x_34 nv_heights (2 * nv_heights) v_heights hcp_36.1 (w_32.2.2 g_31 ra_31 x_34 ex_34 hn_35).1 ((w_32.2.2 g_31 ra_31 x_34 ex_34 hn_35).2).1 (by omega) hcp_36.2.1 hcp_36.2.2.1 hcp_36.2.2.2 H_33.size) (va_cwS 2 ht (goodSS tw_1645 tw_1646 tw_250 gw_J7_copyOf_59c91) rfl rfl rfl (by decide +kernel) ⟨Nat.le_of_ble_eq_true rfl, Nat.le_of_ble_eq_true rfl⟩) ⟨fun a U g mk q => by obtain ⟨q0, q1, qP, qK, qD⟩ := q; exact ⟨q0, q1, qP, va_K.moved (u := U) (U := U.calling g mk a) (Vm.Alike.refl U.vm) qK, qD⟩, fun U hU hW => ⟨rfl, by rw [hU], by rw [hU]; exact hPc_36, va_K.moved hW.alike hKc_36, hDc_36.weaken (fun _ _ _ _ => trivial)⟩⟩ rfl rfl hl.1 rfl (lv_room (Nat.le_of_ble_eq_true rfl)) dX1_keepChoice_50 ⟨by dsimp only; omega, by dsimp only; omega⟩) hS_33 (fun q _ h => hFc_36 q h) hFc_36 (fun u_36 ra_36 t_36 H_36 locs_36 ht_36 hvm_36 hw_36 hB_36 hz_36 hk_36 hS_36 => ?_)
      obtain ⟨g_36, hP1_36, hD1_36⟩ := hB_36
      rw [ht_36] at hP1_36
      obtain ⟨hP_36, hD_36⟩ := va_join (wr := [(h0, .inr (4, oX1 v_steps (.ref h4) (.ref h5) v_wholeOnly v_start v_mode v_node v_place v_limit v_verdict (.ref h6) (.ref h7) (.ref h8) (.ref h9) (.ref ra_31) (.ref h2) v_choiceCount (.ref h3) v_trailCount)), (h1, .inl (k0, nv_choices, .inl v_choices)), (h3, .inl (k2, nv_trail, .inl v_trail)), (ra_31, .inl (k0, (2 * nv_choices), .inl g_31))]) (w1 := [(h2, .inl (k1, nv_heights, .inl v_heights)), (ra_36, .inl (k1, (2 * nv_heights), .inl g_36))]) hP_33 hD_33 [2] [0, 1, 3, 4] rfl rfl (by decide) (by decide) hk_36 hFc_36 hP1_36 hD1_36
      have hP_36 := hP_36.sub (ws' := [(h0, .inr (4, oX1 v_steps (.ref h4) (.ref h5) v_wholeOnly v_start v_mode v_node v_place v_limit v_verdict (.ref h6) (.ref h7) (.ref h8) (.ref h9) (.ref ra_31) (.ref h2) v_choiceCount (.ref h3) v_trailCount)), (h1, .inl (k0, nv_choices, .inl v_choices)), (h2, .inl (k1, nv_heights, .inl v_heights)), (h3, .inl (k2, nv_trail, .inl v_trail)), (ra_31, .inl (k0, (2 * nv_choices), .inl g_31)), (ra_36, .inl (k1, (2 * nv_heights), .inl g_36))]) [0, 1, 4, 2, 3, 5] rfl
      have hD_36 := hD_36.sub (ws' := [(h0, .inr (4, oX1 v_steps (.ref h4) (.ref h5) v_wholeOnly v_start v_mode v_node v_place v_limit v_verdict (.ref h6) (.ref h7) (.ref h8) (.ref h9) (.ref ra_31) (.ref h2) v_choiceCount (.ref h3) v_trailCount)), (h1, .inl (k0, nv_choices, .inl v_choices)), (h2, .inl (k1, nv_heights, .inl v_heights)), (h3, .inl (k2, nv_trail, .inl v_trail)), (ra_31, .inl (k0, (2 * nv_choices), .inl g_31)), (ra_36, .inl (k1, (2 * nv_heights), .inl g_36))]) [0, 1, 4, 2, 3, 5] (by decide) rfl
      clear hPc_36 hDc_36 hKc_36 hFc_36 hP1_36 hD1_36 hk_36 hz_36
      refine W_eqc (c2 := qc - (qc - 2)) (s2 := qs - (qs - 4 * nv_choices)) (by omega) (by omega) ?_
      have hq1_36 : (qc - 2) ≤ qc := by omega
      have hq2_36 : (qs - 4 * nv_choices) ≤ qs := by omega
      refine va_put (D := (dC, dI)) (ci := 4) (v := .ref ra_36) (ty := .array .int) (C := RX1) (T := TX1) (N := 19) hx hb ht inX1 tyX1 tyX1_ok nmX1 hown hK hP_36 hD_36 hS_36 0 rfl rfl 15 (by decide) (ht _ tw_536) (fun _ h9 => h9) rfl (by decide +kernel) rfl rfl (Nat.le_of_ble_eq_true rfl) dX1_keepChoice_53 (fun H_37 locs_37 hP_37 hD_37 hS_37 => ?_)
      have hP_37 : va_P (dC, dI) vwCl [(h0, .inr (4, oX1 v_steps (.ref h4) (.ref h5) v_wholeOnly v_start v_mode v_node v_place v_limit v_verdict (.ref h6) (.ref h7) (.ref h8) (.ref h9) (.ref ra_31) (.ref ra_36) v_choiceCount (.ref h3) v_trailCount)), (h1, .inl (k0, nv_choices, .inl v_choices)), (h2, .inl (k1, nv_heights, .inl v_heights)), (h3, .inl (k2, nv_trail, .inl v_trail)), (ra_31, .inl (k0, (2 * nv_choices), .inl g_31)), (ra_36, .inl (k1, (2 * nv_heights), .inl g_36))] H_37 := hP_37
      have hD_37 : va_D A [(h0, .inr (4, oX1 v_steps (.ref h4) (.ref h5) v_wholeOnly v_start v_mode v_node v_place v_limit v_verdict (.ref h6) (.ref h7) (.ref h8) (.ref h9) (.ref ra_31) (.ref ra_36) v_choiceCount (.ref h3) v_trailCount)), (h1, .inl (k0, nv_choices, .inl v_choices)), (h2, .inl (k1, nv_heights, .inl v_heights)), (h3, .inl (k2, nv_trail, .inl v_trail)), (ra_31, .inl (k0, (2 * nv_choices), .inl g_31)), (ra_36, .inl (k1, (2 * nv_heights), .inl g_36))] := hD_37
      refine lv_aload_n hx hb dX1_keepChoice_56 rfl (lv_at hl 0 rfl) ?_
      refine va_get (D := (dC, dI)) (ci := 4) (v := .int v_choiceCount) (C := RX1) (T := TX1) (N := 19) hx hb ht inX1 hown hK hP_37 0 rfl rfl 16 (by decide) (ht _ tw_537) (fun _ h9 => h9) rfl dX1_keepChoice_57 ?_
      have k_200133 : ∀ (v_choiceCount_200133 : Int32) (v_choices_200133 : Nat → Int32) (v_heights_200133 : Nat → Int32) (hN34_200133 : Nat) (vN34_200133 : Nat → Int32) (nN34_200133 : Nat) (hN50_200133 : Nat) (vN50_200133 : Nat → Int32) (nN50_200133 : Nat), ∀ (H_b200133 : Heap) (locs_b200133 : List Loc) (ls_b200133 : Array Slot) (q1_b200133 q2_b200133 : Nat), w_X1_keepChoice_200133 Q v_choiceCount_200133 v_choices_200133 v_heights_200133 hN34_200133 vN34_200133 nN34_200133 hN50_200133 vN50_200133 nN50_200133 → va_P (dC, dI) vwCl [(h0, .inr (4, oX1 v_steps (.ref h4) (.ref h5) v_wholeOnly v_start v_mode v_node v_place v_limit v_verdict (.ref h6) (.ref h7) (.ref h8) (.ref h9) (.ref hN34_200133) (.ref hN50_200133) v_choiceCount_200133 (.ref h3) v_trailCount)), (h1, .inl (k0, nv_choices, .inl v_choices_200133)), (h2, .inl (k1, nv_heights, .inl v_heights_200133)), (h3, .inl (k2, nv_trail, .inl v_trail)), (hN34_200133, .inl (k0, nN34_200133, .inl vN34_200133)), (hN50_200133, .inl (k1, nN50_200133, .inl vN50_200133))] H_b200133 → va_D A [(h0, .inr (4, oX1 v_steps (.ref h4) (.ref h5) v_wholeOnly v_start v_mode v_node v_place v_limit v_verdict (.ref h6) (.ref h7) (.ref h8) (.ref h9) (.ref hN34_200133) (.ref hN50_200133) v_choiceCount_200133 (.ref h3) v_trailCount)), (h1, .inl (k0, nv_choices, .inl v_choices_200133)), (h2, .inl (k1, nv_heights, .inl v_heights_200133)), (h3, .inl (k2, nv_trail, .inl v_trail)), (hN34_200133, .inl (k0, nN34_200133, .inl vN34_200133)), (hN50_200133, .inl (k1, nN50_200133, .inl vN50_200133))] → va_S A s.heap H_b200133 locs_b200133 → lv_has ls_b200133 3 [] → gLn nN34_200133 nN50_200133 nv_trail q1_b200133 q2_b200133 → q1_b200133 ≤ qc → q2_b200133 ≤ qs → W p l e ({ frames := 2, cells := qc, slots := qs, locals := 62 } : Room) s m ([.ref h0, .int p1, .int p2]).toArray below meth c H_b200133 locs_b200133 (qc - q1_b200133) (qs - q2_b200133) QQ (F0 m 133 ls_b200133 []) := by
        intro v_choiceCount_200133 v_choices_200133 v_heights_200133 hN34_200133 vN34_200133 nN34_200133 hN50_200133 vN50_200133 nN50_200133 H_b200133 locs_b200133 ls_b200133 q1_b200133 q2_b200133 w_b200133 hP_b200133 hD_b200133 hS_b200133 hl_b200133 hL_b200133 hq1_b200133 hq2_b200133
        unfold w_X1_keepChoice_200133 at w_b200133
        have ek_39 : k0 = k0 := va_kk hK 0 0 rfl rfl
        have ek_40 : k1 = k1 := va_kk hK 1 1 rfl rfl
        have hP_38 := hP_b200133.sub (ws' := [(h0, .inr (4, oX1 v_steps (.ref h4) (.ref h5) v_wholeOnly v_start v_mode v_node v_place v_limit v_verdict (.ref h6) (.ref h7) (.ref h8) (.ref h9) (.ref hN34_200133) (.ref hN50_200133) v_choiceCount_200133 (.ref h3) v_trailCount)), (hN34_200133, .inl (k0, nN34_200133, .inl vN34_200133)), (hN50_200133, .inl (k1, nN50_200133, .inl vN50_200133)), (h3, .inl (k2, nv_trail, .inl v_trail))]) [0, 4, 5, 3] rfl
        have hD_38 := hD_b200133.sub (ws' := [(h0, .inr (4, oX1 v_steps (.ref h4) (.ref h5) v_wholeOnly v_start v_mode v_node v_place v_limit v_verdict (.ref h6) (.ref h7) (.ref h8) (.ref h9) (.ref hN34_200133) (.ref hN50_200133) v_choiceCount_200133 (.ref h3) v_trailCount)), (hN34_200133, .inl (k0, nN34_200133, .inl vN34_200133)), (hN50_200133, .inl (k1, nN50_200133, .inl vN50_200133)), (h3, .inl (k2, nv_trail, .inl v_trail))]) [0, 4, 5, 3] (by decide) rfl
        try subst ek_39
        try subst ek_40
        refine W_gain (fun ga_41 gb_41 gc_41 gd_41 => ?_)
        refine W.widen (k := qc) (n := qs) (by omega) (by omega) ?_
        rw [hQQ]
        exact W.vret hx hb hr (fun t9 ht9 hW9 => ⟨⟨0, rfl, rfl, ⟨v_choiceCount_200133, hN34_200133, vN34_200133, nN34_200133, hN50_200133, vN50_200133, nN50_200133, q1_b200133, q2_b200133, w_b200133, ⟨hL_b200133, hq1_b200133, hq2_b200133, by rw [ht9]; omega, by rw [ht9]; omega⟩, by rw [ht9]; exact hP_38, hD_38⟩⟩, hS_b200133.F ht9⟩) hS_b200133.2.2 dX1_keepChoice_133
      have w_42 := (((w_32.2.2 g_31 ra_31 x_34 ex_34 hn_35).2).2) g_36 ra_36
      refine lv_if_lt (tgt := 133) hx hb dX1_keepChoice_60 (by decide) (fun c_43 => ?_) (fun c_43 => ?_)
      · exact k_200133 v_choiceCount v_choices v_heights ra_31 g_31 (2 * nv_choices) ra_36 g_36 (2 * nv_heights) _ _ _ _ _ (w_42.1 c_43) hP_37 hD_37 hS_37 (lv_sub hl [] rfl) hL_31 hq1_36 hq2_36
      · refine lv_aload_n hx hb dX1_keepChoice_63 rfl (lv_at hl 0 rfl) ?_
        refine va_get (D := (dC, dI)) (ci := 4) (v := .int v_choiceCount) (C := RX1) (T := TX1) (N := 19) hx hb ht inX1 hown hK hP_37 0 rfl rfl 16 (by decide) (ht _ tw_537) (fun _ h9 => h9) rfl dX1_keepChoice_64 ?_
        refine lv_aload_n hx hb dX1_keepChoice_67 rfl (lv_at hl 0 rfl) ?_
        refine va_get (D := (dC, dI)) (ci := 4) (v := .ref ra_31) (C := RX1) (T := TX1) (N := 19) hx hb ht inX1 hown hK hP_37 0 rfl rfl 14 (by decide) (ht _ tw_535) (fun _ h9 => h9) rfl dX1_keepChoice_68 ?_
        refine va_alen hx hb hK hP_37 4 0 rfl rfl rfl dX1_keepChoice_71 ?_
        refine lv_topi (fun x_44 ex_44 => ?_)
        have ex_44 : x_44 = Int32.ofNat (2 * nv_choices) := ex_44
        have hn_45 : (2 * nv_choices) ≤ 524288 := by have h9 := gLn_b hL_31; omega
        refine lv_icmp_ge (tgt := 133) hx hb dX1_keepChoice_72 (by decide) (fun c_46 => ?_) (fun c_46 => ?_)
        · exact k_200133 v_choiceCount v_choices v_heights ra_31 g_31 (2 * nv_choices) ra_36 g_36 (2 * nv_heights) _ _ _ _ _ ((w_42.2 c_43 x_44 ex_44 hn_45).1 c_46) hP_37 hD_37 hS_37 (lv_sub hl [] rfl) hL_31 hq1_36 hq2_36
        · refine lv_aload_n hx hb dX1_keepChoice_75 rfl (lv_at hl 0 rfl) ?_
          refine va_get (D := (dC, dI)) (ci := 4) (v := .int v_choiceCount) (C := RX1) (T := TX1) (N := 19) hx hb ht inX1 hown hK hP_37 0 rfl rfl 16 (by decide) (ht _ tw_537) (fun _ h9 => h9) rfl dX1_keepChoice_76 ?_
          refine lv_aload_n hx hb dX1_keepChoice_79 rfl (lv_at hl 0 rfl) ?_
          refine va_get (D := (dC, dI)) (ci := 4) (v := .ref ra_36) (C := RX1) (T := TX1) (N := 19) hx hb ht inX1 hown hK hP_37 0 rfl rfl 15 (by decide) (ht _ tw_536) (fun _ h9 => h9) rfl dX1_keepChoice_80 ?_
          refine va_alen hx hb hK hP_37 5 1 rfl rfl rfl dX1_keepChoice_83 ?_
          refine lv_topi (fun x_47 ex_47 => ?_)
          have ex_47 : x_47 = Int32.ofNat (2 * nv_heights) := ex_47
          have hn_48 : (2 * nv_heights) ≤ 524288 := by have h9 := gLn_b hL_31; omega
          have w_49 := (((w_42.2 c_43 x_44 ex_44 hn_45).2 c_46) x_47 ex_47) hn_48
          refine lv_icmp_ge (tgt := 133) hx hb dX1_keepChoice_84 (by decide) (fun c_50 => ?_) (fun c_50 => ?_)
          · exact k_200133 v_choiceCount v_choices v_heights ra_31 g_31 (2 * nv_choices) ra_36 g_36 (2 * nv_heights) _ _ _ _ _ (w_49.1 c_50) hP_37 hD_37 hS_37 (lv_sub hl [] rfl) hL_31 hq1_36 hq2_36
          · refine lv_aload_n hx hb dX1_keepChoice_87 rfl (lv_at hl 0 rfl) ?_
            refine va_get (D := (dC, dI)) (ci := 4) (v := .ref ra_31) (C := RX1) (T := TX1) (N := 19) hx hb ht inX1 hown hK hP_37 0 rfl rfl 14 (by decide) (ht _ tw_535) (fun _ h9 => h9) rfl dX1_keepChoice_88 ?_
            refine lv_aload_n hx hb dX1_keepChoice_91 rfl (lv_at hl 0 rfl) ?_
            refine va_get (D := (dC, dI)) (ci := 4) (v := .int v_choiceCount) (C := RX1) (T := TX1) (N := 19) hx hb ht inX1 hown hK hP_37 0 rfl rfl 16 (by decide) (ht _ tw_537) (fun _ h9 => h9) rfl dX1_keepChoice_92 ?_
            refine lv_iload_n hx hb dX1_keepChoice_95 rfl (lv_at hl 2 rfl) ?_
            refine lv_iconst (v := 4) hx hb dX1_keepChoice_96 (by decide) ?_
            refine lv_imul hx hb dX1_keepChoice_97 ?_
            refine lv_topi (fun x_51 ex_51 => ?_)
            have ex_51 : x_51 = p2 * (4 : Int32) := ex_51
            refine lv_iload_n hx hb dX1_keepChoice_98 rfl (lv_at hl 1 rfl) ?_
            refine lv_iadd hx hb dX1_keepChoice_99 ?_
            refine lv_topi (fun x_52 ex_52 => ?_)
            have ex_52 : x_52 = x_51 + p1 := ex_52
            refine lv_sipush (v := 128) hx hb dX1_keepChoice_100 (by decide) ?_
            refine lv_imul hx hb dX1_keepChoice_103 ?_
            refine lv_topi (fun x_53 ex_53 => ?_)
            have ex_53 : x_53 = x_52 * (128 : Int32) := ex_53
            refine lv_aload_n hx hb dX1_keepChoice_104 rfl (lv_at hl 0 rfl) ?_
            refine va_get (D := (dC, dI)) (ci := 4) (v := .int v_place) (C := RX1) (T := TX1) (N := 19) hx hb ht inX1 hown hK hP_37 0 rfl rfl 7 (by decide) (ht _ tw_528) (fun _ h9 => h9) rfl dX1_keepChoice_105 ?_
            refine lv_iadd hx hb dX1_keepChoice_108 ?_
            refine lv_topi (fun x_54 ex_54 => ?_)
            have ex_54 : x_54 = x_53 + v_place := ex_54
            have w_55 := w_49.2 c_50 x_51 ex_51 x_52 ex_52 x_53 ex_53 x_54 ex_54
            refine va_iast hx hb hK hP_37 hD_37 hS_37 4 0 rfl rfl (i := v_choiceCount) w_55.1 dX1_keepChoice_109 (fun H_56 locs_56 hP_56 hD_56 hS_56 => ?_)
            obtain ⟨g_56, hg_56⟩ : ∃ g : Nat → Int32, g = upd g_31 v_choiceCount.toNatClampNeg x_54 := ⟨_, rfl⟩
            have hP_56 : va_P (dC, dI) vwCl [(h0, .inr (4, oX1 v_steps (.ref h4) (.ref h5) v_wholeOnly v_start v_mode v_node v_place v_limit v_verdict (.ref h6) (.ref h7) (.ref h8) (.ref h9) (.ref ra_31) (.ref ra_36) v_choiceCount (.ref h3) v_trailCount)), (h1, .inl (k0, nv_choices, .inl v_choices)), (h2, .inl (k1, nv_heights, .inl v_heights)), (h3, .inl (k2, nv_trail, .inl v_trail)), (ra_31, .inl (k0, (2 * nv_choices), .inl g_56)), (ra_36, .inl (k1, (2 * nv_heights), .inl g_36))] H_56 := by rw [hg_56]; exact hP_56
            have hD_56 : va_D A [(h0, .inr (4, oX1 v_steps (.ref h4) (.ref h5) v_wholeOnly v_start v_mode v_node v_place v_limit v_verdict (.ref h6) (.ref h7) (.ref h8) (.ref h9) (.ref ra_31) (.ref ra_36) v_choiceCount (.ref h3) v_trailCount)), (h1, .inl (k0, nv_choices, .inl v_choices)), (h2, .inl (k1, nv_heights, .inl v_heights)), (h3, .inl (k2, nv_trail, .inl v_trail)), (ra_31, .inl (k0, (2 * nv_choices), .inl g_56)), (ra_36, .inl (k1, (2 * nv_heights), .inl g_36))] := by rw [hg_56]; exact hD_56
            refine lv_aload_n hx hb dX1_keepChoice_110 rfl (lv_at hl 0 rfl) ?_
            refine va_get (D := (dC, dI)) (ci := 4) (v := .ref ra_36) (C := RX1) (T := TX1) (N := 19) hx hb ht inX1 hown hK hP_56 0 rfl rfl 15 (by decide) (ht _ tw_536) (fun _ h9 => h9) rfl dX1_keepChoice_111 ?_
            refine lv_aload_n hx hb dX1_keepChoice_114 rfl (lv_at hl 0 rfl) ?_
            refine va_get (D := (dC, dI)) (ci := 4) (v := .int v_choiceCount) (C := RX1) (T := TX1) (N := 19) hx hb ht inX1 hown hK hP_56 0 rfl rfl 16 (by decide) (ht _ tw_537) (fun _ h9 => h9) rfl dX1_keepChoice_115 ?_
            refine lv_aload_n hx hb dX1_keepChoice_118 rfl (lv_at hl 0 rfl) ?_
            refine va_get (D := (dC, dI)) (ci := 4) (v := .int v_trailCount) (C := RX1) (T := TX1) (N := 19) hx hb ht inX1 hown hK hP_56 0 rfl rfl 18 (by decide) (ht _ tw_539) (fun _ h9 => h9) rfl dX1_keepChoice_119 ?_
            refine va_iast hx hb hK hP_56 hD_56 hS_56 5 1 rfl rfl (i := v_choiceCount) (w_55.2 g_56 hg_56).1 dX1_keepChoice_122 (fun H_57 locs_57 hP_57 hD_57 hS_57 => ?_)
            obtain ⟨g_57, hg_57⟩ : ∃ g : Nat → Int32, g = upd g_36 v_choiceCount.toNatClampNeg v_trailCount := ⟨_, rfl⟩
            have hP_57 : va_P (dC, dI) vwCl [(h0, .inr (4, oX1 v_steps (.ref h4) (.ref h5) v_wholeOnly v_start v_mode v_node v_place v_limit v_verdict (.ref h6) (.ref h7) (.ref h8) (.ref h9) (.ref ra_31) (.ref ra_36) v_choiceCount (.ref h3) v_trailCount)), (h1, .inl (k0, nv_choices, .inl v_choices)), (h2, .inl (k1, nv_heights, .inl v_heights)), (h3, .inl (k2, nv_trail, .inl v_trail)), (ra_31, .inl (k0, (2 * nv_choices), .inl g_56)), (ra_36, .inl (k1, (2 * nv_heights), .inl g_57))] H_57 := by rw [hg_57]; exact hP_57
            have hD_57 : va_D A [(h0, .inr (4, oX1 v_steps (.ref h4) (.ref h5) v_wholeOnly v_start v_mode v_node v_place v_limit v_verdict (.ref h6) (.ref h7) (.ref h8) (.ref h9) (.ref ra_31) (.ref ra_36) v_choiceCount (.ref h3) v_trailCount)), (h1, .inl (k0, nv_choices, .inl v_choices)), (h2, .inl (k1, nv_heights, .inl v_heights)), (h3, .inl (k2, nv_trail, .inl v_trail)), (ra_31, .inl (k0, (2 * nv_choices), .inl g_56)), (ra_36, .inl (k1, (2 * nv_heights), .inl g_57))] := by rw [hg_57]; exact hD_57
            refine lv_aload_n hx hb dX1_keepChoice_123 rfl (lv_at hl 0 rfl) ?_
            refine lv_dup hx hb dX1_keepChoice_124 rfl ?_
            refine va_get (D := (dC, dI)) (ci := 4) (v := .int v_choiceCount) (C := RX1) (T := TX1) (N := 19) hx hb ht inX1 hown hK hP_57 0 rfl rfl 16 (by decide) (ht _ tw_537) (fun _ h9 => h9) rfl dX1_keepChoice_125 ?_
            refine lv_iconst (v := 1) hx hb dX1_keepChoice_128 (by decide) ?_
            refine lv_iadd hx hb dX1_keepChoice_129 ?_
            refine lv_topi (fun x_58 ex_58 => ?_)
            have ex_58 : x_58 = v_choiceCount + (1 : Int32) := ex_58
            refine va_put (D := (dC, dI)) (ci := 4) (v := .int x_58) (ty := .int) (C := RX1) (T := TX1) (N := 19) hx hb ht inX1 tyX1 tyX1_ok nmX1 hown hK hP_57 hD_57 hS_57 0 rfl rfl 16 (by decide) (ht _ tw_537) (fun _ h9 => h9) rfl (by decide +kernel) rfl rfl (Nat.le_of_ble_eq_true rfl) dX1_keepChoice_130 (fun H_59 locs_59 hP_59 hD_59 hS_59 => ?_)
            have hP_59 : va_P (dC, dI) vwCl [(h0, .inr (4, oX1 v_steps (.ref h4) (.ref h5) v_wholeOnly v_start v_mode v_node v_place v_limit v_verdict (.ref h6) (.ref h7) (.ref h8) (.ref h9) (.ref ra_31) (.ref ra_36) x_58 (.ref h3) v_trailCount)), (h1, .inl (k0, nv_choices, .inl v_choices)), (h2, .inl (k1, nv_heights, .inl v_heights)), (h3, .inl (k2, nv_trail, .inl v_trail)), (ra_31, .inl (k0, (2 * nv_choices), .inl g_56)), (ra_36, .inl (k1, (2 * nv_heights), .inl g_57))] H_59 := hP_59
            have hD_59 : va_D A [(h0, .inr (4, oX1 v_steps (.ref h4) (.ref h5) v_wholeOnly v_start v_mode v_node v_place v_limit v_verdict (.ref h6) (.ref h7) (.ref h8) (.ref h9) (.ref ra_31) (.ref ra_36) x_58 (.ref h3) v_trailCount)), (h1, .inl (k0, nv_choices, .inl v_choices)), (h2, .inl (k1, nv_heights, .inl v_heights)), (h3, .inl (k2, nv_trail, .inl v_trail)), (ra_31, .inl (k0, (2 * nv_choices), .inl g_56)), (ra_36, .inl (k1, (2 * nv_heights), .inl g_57))] := hD_59
            have w_60 := (((w_55.2 g_56 hg_56).2) g_57 hg_57) x_58 ex_58
            exact k_200133 x_58 v_choices v_heights ra_31 g_56 (2 * nv_choices) ra_36 g_57 (2 * nv_heights) _ _ _ _ _ w_60 hP_59 hD_59 hS_59 (lv_sub hl [] rfl) hL_31 hq1_36 hq2_36
