def w_X1_keepChoice_133 (nv_choices : Nat) (nv_heights : Nat) (h1 : Nat) (h2 : Nat) (Q : Int32 → Nat → (Nat → Int32) → Nat → Nat → (Nat → Int32) → Nat → Prop) (v_choiceCount_133 : Int32) (v_choices_133 : Nat → Int32) (v_heights_133 : Nat → Int32) : Prop :=
  Q  v_choiceCount_133 h1 v_choices_133 nv_choices h2 v_heights_133 nv_heights
def w_X1_keepChoice_56 (p1 : Int32) (p2 : Int32) (v_place : Int32) (v_trailCount : Int32) (nv_choices : Nat) (nv_heights : Nat) (h1 : Nat) (h2 : Nat) (Q : Int32 → Nat → (Nat → Int32) → Nat → Nat → (Nat → Int32) → Nat → Prop) (v_choiceCount_56 : Int32) (v_choices_56 : Nat → Int32) (v_heights_56 : Nat → Int32) : Prop :=
  ((v_choiceCount_56 < 0) → w_X1_keepChoice_133 nv_choices nv_heights h1 h2 Q v_choiceCount_56 v_choices_56 v_heights_56) ∧ ((¬ v_choiceCount_56 < 0) → ∀ x_5 : Int32, x_5 = Int32.ofNat nv_choices → ((x_5 ≤ v_choiceCount_56) → w_X1_keepChoice_133 nv_choices nv_heights h1 h2 Q v_choiceCount_56 v_choices_56 v_heights_56) ∧ ((¬ x_5 ≤ v_choiceCount_56) → ∀ x_7 : Int32, x_7 = Int32.ofNat nv_heights → ((x_7 ≤ v_choiceCount_56) → w_X1_keepChoice_133 nv_choices nv_heights h1 h2 Q v_choiceCount_56 v_choices_56 v_heights_56) ∧ ((¬ x_7 ≤ v_choiceCount_56) → ∀ x_10 : Int32, x_10 = p2 * (4 : Int32) → ∀ x_11 : Int32, x_11 = x_10 + p1 → ∀ x_12 : Int32, x_12 = x_11 * (128 : Int32) → ∀ x_13 : Int32, x_13 = x_12 + v_place → vp_in v_choiceCount_56 nv_choices ∧ ∀ g_15 : Nat → Int32, g_15 = upd v_choices_56 v_choiceCount_56.toNatClampNeg x_13 → vp_in v_choiceCount_56 nv_heights ∧ ∀ g_16 : Nat → Int32, g_16 = upd v_heights_56 v_choiceCount_56.toNatClampNeg v_trailCount → ∀ x_17 : Int32, x_17 = v_choiceCount_56 + (1 : Int32) → w_X1_keepChoice_133 nv_choices nv_heights h1 h2 Q x_17 g_15 g_16)))
def w_X1_keepChoice_200133 (Q : Int32 → Nat → (Nat → Int32) → Nat → Nat → (Nat → Int32) → Nat → Prop) (v_choiceCount_200133 : Int32) (v_choices_200133 : Nat → Int32) (v_heights_200133 : Nat → Int32) (hN34_200133 : Nat) (vN34_200133 : Nat → Int32) (nN34_200133 : Nat) (hN50_200133 : Nat) (vN50_200133 : Nat → Int32) (nN50_200133 : Nat) : Prop :=
  Q  v_choiceCount_200133 hN34_200133 vN34_200133 nN34_200133 hN50_200133 vN50_200133 nN50_200133
def w_X1_keepChoice (p1 : Int32) (p2 : Int32) (v_place : Int32) (v_choiceCount : Int32) (v_trailCount : Int32) (v_choices : Nat → Int32) (nv_choices : Nat) (v_heights : Nat → Int32) (nv_heights : Nat) (h1 : Nat) (h2 : Nat) (Q : Int32 → Nat → (Nat → Int32) → Nat → Nat → (Nat → Int32) → Nat → Prop) : Prop :=
  ∀ x_1 : Int32, x_1 = Int32.ofNat nv_choices → ((v_choiceCount < x_1) → w_X1_keepChoice_56 p1 p2 v_place v_trailCount nv_choices nv_heights h1 h2 Q v_choiceCount v_choices v_heights) ∧ ((¬ v_choiceCount < x_1) → ∀ x_21 : Int32, x_21 = Int32.ofNat nv_choices → ((262144 ≤ x_21) → w_X1_keepChoice_56 p1 p2 v_place v_trailCount nv_choices nv_heights h1 h2 Q v_choiceCount v_choices v_heights) ∧ ((¬ 262144 ≤ x_21) → ∀ x_24 : Int32, x_24 = Int32.ofNat nv_choices → ∀ x_25 : Int32, x_25 = x_24 * (2 : Int32) → ¬ x_25 < 0 ∧ x_25.toNatClampNeg = 2 * nv_choices ∧ nv_choices < 262144 ∧ ∀ (g_26 : Nat → Int32) (ra_26 : Nat), ∀ x_29 : Int32, x_29 = Int32.ofNat (2 * nv_choices) → ¬ x_29 < 0 ∧ x_29.toNatClampNeg = 2 * nv_heights ∧ ∀ (g_30 : Nat → Int32) (ra_30 : Nat), ((v_choiceCount < 0) → w_X1_keepChoice_200133 Q v_choiceCount v_choices v_heights ra_26 g_26 (2 * nv_choices) ra_30 g_30 (2 * nv_heights)) ∧ ((¬ v_choiceCount < 0) → ∀ x_38 : Int32, x_38 = Int32.ofNat (2 * nv_choices) → ((x_38 ≤ v_choiceCount) → w_X1_keepChoice_200133 Q v_choiceCount v_choices v_heights ra_26 g_26 (2 * nv_choices) ra_30 g_30 (2 * nv_heights)) ∧ ((¬ x_38 ≤ v_choiceCount) → ∀ x_40 : Int32, x_40 = Int32.ofNat (2 * nv_heights) → ((x_40 ≤ v_choiceCount) → w_X1_keepChoice_200133 Q v_choiceCount v_choices v_heights ra_26 g_26 (2 * nv_choices) ra_30 g_30 (2 * nv_heights)) ∧ ((¬ x_40 ≤ v_choiceCount) → ∀ x_43 : Int32, x_43 = p2 * (4 : Int32) → ∀ x_44 : Int32, x_44 = x_43 + p1 → ∀ x_45 : Int32, x_45 = x_44 * (128 : Int32) → ∀ x_46 : Int32, x_46 = x_45 + v_place → vp_in v_choiceCount (2 * nv_choices) ∧ ∀ g_48 : Nat → Int32, g_48 = upd g_26 v_choiceCount.toNatClampNeg x_46 → vp_in v_choiceCount (2 * nv_heights) ∧ ∀ g_49 : Nat → Int32, g_49 = upd g_30 v_choiceCount.toNatClampNeg v_trailCount → ∀ x_50 : Int32, x_50 = v_choiceCount + (1 : Int32) → w_X1_keepChoice_200133 Q x_50 v_choices v_heights ra_26 g_48 (2 * nv_choices) ra_30 g_49 (2 * nv_heights))))))
set_option maxHeartbeats 4000000 in
set_option maxRecDepth 100000 in
theorem mt_X1_keepChoice (l : Launch) (dC : Nat → ClassId) (dI : Nat → Nat → Nat) (h0 h1 h2 h3 h4 h5 h6 h7 h8 h9 : Nat) (k0 k1 k2 : ClassId) (p1 : Int32) (p2 : Int32) (v_steps : Int32) (v_wholeOnly : Bool) (v_start : Int32) (v_mode : Int32) (v_node : Int32) (v_place : Int32) (v_limit : Int32) (v_verdict : Int32) (v_choiceCount : Int32) (v_trailCount : Int32) (v_choices : Nat → Int32) (nv_choices : Nat) (v_heights : Nat → Int32) (nv_heights : Nat) (v_trail : Nat → Int32) (nv_trail : Nat) (Q : Int32 → Nat → (Nat → Int32) → Nat → Nat → (Nat → Int32) → Nat → Prop) (w : w_X1_keepChoice p1 p2 v_place v_choiceCount v_trailCount v_choices nv_choices v_heights nv_heights h1 h2 Q) (sz : Nat) (su qc qs : Nat) (hL : gLn nv_choices nv_heights nv_trail qc qs) : Met l yX1_keepChoice (WS yX1_keepChoice cX1_keepChoice 3 none) ({ frames := 2, cells := qc, slots := qs, locals := 62 } : Room) (va_Pc [.ref h0, .int p1, .int p2] (fun U => U.heap.size = sz ∧ hsum U.heap = su ∧ va_P (dC, dI) vwCl [(h0, .inr (4, oX1 v_steps (.ref h4) (.ref h5) v_wholeOnly v_start v_mode v_node v_place v_limit v_verdict (.ref h6) (.ref h7) (.ref h8) (.ref h9) (.ref h1) (.ref h2) v_choiceCount (.ref h3) v_trailCount)), (h1, .inl (k0, nv_choices, .inl v_choices)), (h2, .inl (k1, nv_heights, .inl v_heights)), (h3, .inl (k2, nv_trail, .inl v_trail))] U.heap ∧ va_K (dC, dI) vwCl [(k0, .int), (k1, .int), (k2, .int)] U ∧ va_D (fun _ => True) [(h0, .inr (4, oX1 v_steps (.ref h4) (.ref h5) v_wholeOnly v_start v_mode v_node v_place v_limit v_verdict (.ref h6) (.ref h7) (.ref h8) (.ref h9) (.ref h1) (.ref h2) v_choiceCount (.ref h3) v_trailCount)), (h1, .inl (k0, nv_choices, .inl v_choices)), (h2, .inl (k1, nv_heights, .inl v_heights)), (h3, .inl (k2, nv_trail, .inl v_trail))])) (va_Qv (fun (u : Nat) => u = 0) (fun (_ : Nat) (t : State) => ∃ (ov_choiceCount : Int32), ∃ (oh1 : Nat), ∃ (ov_choices : Nat → Int32), ∃ (onv_choices : Nat), ∃ (oh2 : Nat), ∃ (ov_heights : Nat → Int32), ∃ (onv_heights : Nat), ∃ (q1 : Nat), ∃ (q2 : Nat), (Q ov_choiceCount oh1 ov_choices onv_choices oh2 ov_heights onv_heights) ∧ (gLn onv_choices onv_heights nv_trail q1 q2 ∧ q1 ≤ qc ∧ q2 ≤ qs ∧ t.heap.size + q1 ≤ sz + qc ∧ hsum t.heap + q2 ≤ su + qs) ∧ va_P (dC, dI) vwCl [(h0, .inr (4, oX1 v_steps (.ref h4) (.ref h5) v_wholeOnly v_start v_mode v_node v_place v_limit v_verdict (.ref h6) (.ref h7) (.ref h8) (.ref h9) (.ref oh1) (.ref oh2) ov_choiceCount (.ref h3) v_trailCount)), (oh1, .inl (k0, onv_choices, .inl ov_choices)), (oh2, .inl (k1, onv_heights, .inl ov_heights)), (h3, .inl (k2, nv_trail, .inl v_trail))] t.heap ∧ va_D (va_A [(h0, .inr (4, oX1 v_steps (.ref h4) (.ref h5) v_wholeOnly v_start v_mode v_node v_place v_limit v_verdict (.ref h6) (.ref h7) (.ref h8) (.ref h9) (.ref h1) (.ref h2) v_choiceCount (.ref h3) v_trailCount)), (h1, .inl (k0, nv_choices, .inl v_choices)), (h2, .inl (k1, nv_heights, .inl v_heights)), (h3, .inl (k2, nv_trail, .inl v_trail))] sz) [(h0, .inr (4, oX1 v_steps (.ref h4) (.ref h5) v_wholeOnly v_start v_mode v_node v_place v_limit v_verdict (.ref h6) (.ref h7) (.ref h8) (.ref h9) (.ref oh1) (.ref oh2) ov_choiceCount (.ref h3) v_trailCount)), (oh1, .inl (k0, onv_choices, .inl ov_choices)), (oh2, .inl (k1, onv_heights, .inl ov_heights)), (h3, .inl (k2, nv_trail, .inl v_trail))]) (va_A [(h0, .inr (4, oX1 v_steps (.ref h4) (.ref h5) v_wholeOnly v_start v_mode v_node v_place v_limit v_verdict (.ref h6) (.ref h7) (.ref h8) (.ref h9) (.ref h1) (.ref h2) v_choiceCount (.ref h3) v_trailCount)), (h1, .inl (k0, nv_choices, .inl v_choices)), (h2, .inl (k1, nv_heights, .inl v_heights)), (h3, .inl (k2, nv_trail, .inl v_trail))] sz)) qc qs (va_A [(h0, .inr (4, oX1 v_steps (.ref h4) (.ref h5) v_wholeOnly v_start v_mode v_node v_place v_limit v_verdict (.ref h6) (.ref h7) (.ref h8) (.ref h9) (.ref h1) (.ref h2) v_choiceCount (.ref h3) v_trailCount)), (h1, .inl (k0, nv_choices, .inl v_choices)), (h2, .inl (k1, nv_heights, .inl v_heights)), (h3, .inl (k2, nv_trail, .inl v_trail))] sz) := by
  refine Met.ofW (cc := cX1_keepChoice) (maxL := 3) (ret := none) (by decide) rfl ?_
  intro p e s m args below meth c s₁ B hml hv
  obtain ⟨rfl, hsz, hsu, hP, hK, hD0⟩ := hv
  have hx := B.exec
  have hb := B.bytes
  have hr := B.returns
  have hts := atoms_spec (ws := WS yX1_keepChoice cX1_keepChoice 3 none) B.pre
  have ht : ∀ w ∈ TW, w.before _ s = true := fun w h => hts w (List.mem_cons_of_mem _ h)
  have hown : s.vm.findClass "PatternWorkshop$GoingBack" = some m.cls := findClass_of_methodNamed B.named
  have hlocks := B.notSynchronized
  subst hsz
  subst hsu
  have hD := hD0.self (sz := s.heap.size)
  generalize hAe : va_A [(h0, .inr (4, oX1 v_steps (.ref h4) (.ref h5) v_wholeOnly v_start v_mode v_node v_place v_limit v_verdict (.ref h6) (.ref h7) (.ref h8) (.ref h9) (.ref h1) (.ref h2) v_choiceCount (.ref h3) v_trailCount)), (h1, .inl (k0, nv_choices, .inl v_choices)), (h2, .inl (k1, nv_heights, .inl v_heights)), (h3, .inl (k2, nv_trail, .inl v_trail))] s.heap.size = A at hD ⊢
  have hA : ∀ q : Nat, s.heap.size ≤ q → A q := fun q h => by rw [← hAe]; exact Or.inr h
  have hS : va_S A s.heap s.heap [] := va_S.rf
  have hP : va_P (dC, dI) vwCl [(h0, .inr (4, oX1 v_steps (.ref h4) (.ref h5) v_wholeOnly v_start v_mode v_node v_place v_limit v_verdict (.ref h6) (.ref h7) (.ref h8) (.ref h9) (.ref h1) (.ref h2) v_choiceCount (.ref h3) v_trailCount)), (h1, .inl (k0, nv_choices, .inl v_choices)), (h2, .inl (k1, nv_heights, .inl v_heights)), (h3, .inl (k2, nv_trail, .inl v_trail))] s.heap := hP
  have hl := lv_entry ([.ref h0, .int p1, .int p2]) (n := 3) (Nat.le_of_ble_eq_true rfl)
  rw [lg_entry_eq]
  generalize (lg_sl ([.ref h0, .int p1, .int p2]) ++ List.replicate (3 - (lg_sl ([.ref h0, .int p1, .int p2])).length) Slot.unset).toArray = ls at hl ⊢
  have hl : lv_has ls 3 [(0, .ref h0), (1, .int p1), (2, .int p2)] := hl
  clear hD0
  obtain ⟨QQ, hQQ⟩ : ∃ QQ, QQ = MQ below (va_Qv (fun (u : Nat) => u = 0) (fun (_ : Nat) (t : State) => ∃ (ov_choiceCount : Int32), ∃ (oh1 : Nat), ∃ (ov_choices : Nat → Int32), ∃ (onv_choices : Nat), ∃ (oh2 : Nat), ∃ (ov_heights : Nat → Int32), ∃ (onv_heights : Nat), ∃ (q1 : Nat), ∃ (q2 : Nat), (Q ov_choiceCount oh1 ov_choices onv_choices oh2 ov_heights onv_heights) ∧ (gLn onv_choices onv_heights nv_trail q1 q2 ∧ q1 ≤ qc ∧ q2 ≤ qs ∧ t.heap.size + q1 ≤ s.heap.size + qc ∧ hsum t.heap + q2 ≤ hsum s.heap + qs) ∧ va_P (dC, dI) vwCl [(h0, .inr (4, oX1 v_steps (.ref h4) (.ref h5) v_wholeOnly v_start v_mode v_node v_place v_limit v_verdict (.ref h6) (.ref h7) (.ref h8) (.ref h9) (.ref oh1) (.ref oh2) ov_choiceCount (.ref h3) v_trailCount)), (oh1, .inl (k0, onv_choices, .inl ov_choices)), (oh2, .inl (k1, onv_heights, .inl ov_heights)), (h3, .inl (k2, nv_trail, .inl v_trail))] t.heap ∧ va_D A [(h0, .inr (4, oX1 v_steps (.ref h4) (.ref h5) v_wholeOnly v_start v_mode v_node v_place v_limit v_verdict (.ref h6) (.ref h7) (.ref h8) (.ref h9) (.ref oh1) (.ref oh2) ov_choiceCount (.ref h3) v_trailCount)), (oh1, .inl (k0, onv_choices, .inl ov_choices)), (oh2, .inl (k1, onv_heights, .inl ov_heights)), (h3, .inl (k2, nv_trail, .inl v_trail))]) A) ([.ref h0, .int p1, .int p2]).toArray s qc qs A := ⟨_, rfl⟩
  show W p l e ({ frames := 2, cells := qc, slots := qs, locals := 62 } : Room) s m ([.ref h0, .int p1, .int p2]).toArray below meth c s.heap [] 0 0 (MQ below (va_Qv (fun (u : Nat) => u = 0) (fun (_ : Nat) (t : State) => ∃ (ov_choiceCount : Int32), ∃ (oh1 : Nat), ∃ (ov_choices : Nat → Int32), ∃ (onv_choices : Nat), ∃ (oh2 : Nat), ∃ (ov_heights : Nat → Int32), ∃ (onv_heights : Nat), ∃ (q1 : Nat), ∃ (q2 : Nat), (Q ov_choiceCount oh1 ov_choices onv_choices oh2 ov_heights onv_heights) ∧ (gLn onv_choices onv_heights nv_trail q1 q2 ∧ q1 ≤ qc ∧ q2 ≤ qs ∧ t.heap.size + q1 ≤ s.heap.size + qc ∧ hsum t.heap + q2 ≤ hsum s.heap + qs) ∧ va_P (dC, dI) vwCl [(h0, .inr (4, oX1 v_steps (.ref h4) (.ref h5) v_wholeOnly v_start v_mode v_node v_place v_limit v_verdict (.ref h6) (.ref h7) (.ref h8) (.ref h9) (.ref oh1) (.ref oh2) ov_choiceCount (.ref h3) v_trailCount)), (oh1, .inl (k0, onv_choices, .inl ov_choices)), (oh2, .inl (k1, onv_heights, .inl ov_heights)), (h3, .inl (k2, nv_trail, .inl v_trail))] t.heap ∧ va_D A [(h0, .inr (4, oX1 v_steps (.ref h4) (.ref h5) v_wholeOnly v_start v_mode v_node v_place v_limit v_verdict (.ref h6) (.ref h7) (.ref h8) (.ref h9) (.ref oh1) (.ref oh2) ov_choiceCount (.ref h3) v_trailCount)), (oh1, .inl (k0, onv_choices, .inl ov_choices)), (oh2, .inl (k1, onv_heights, .inl ov_heights)), (h3, .inl (k2, nv_trail, .inl v_trail))]) A) ([.ref h0, .int p1, .int p2]).toArray s qc qs A) (F0 m 0 ls [])
  rw [← hQQ]
  refine W_0 (qc := qc) (qs := qs) ?_
  have hq1 : qc ≤ qc := Nat.le_refl _
  have hq2 : qs ≤ qs := Nat.le_refl _
  unfold w_X1_keepChoice at w
  refine lv_aload_n hx hb dX1_keepChoice_0 rfl (lv_at hl 0 rfl) ?_
  refine va_get (D := (dC, dI)) (ci := 4) (v := .int v_choiceCount) (C := RX1) (T := TX1) (N := 19) hx hb ht inX1 hown hK hP 0 rfl rfl 16 (by decide) (ht _ tw_537) (fun _ h9 => h9) rfl dX1_keepChoice_1 ?_
  refine lv_aload_n hx hb dX1_keepChoice_4 rfl (lv_at hl 0 rfl) ?_
  refine va_get (D := (dC, dI)) (ci := 4) (v := .ref h1) (C := RX1) (T := TX1) (N := 19) hx hb ht inX1 hown hK hP 0 rfl rfl 14 (by decide) (ht _ tw_535) (fun _ h9 => h9) rfl dX1_keepChoice_5 ?_
  refine va_alen hx hb hK hP 1 0 rfl rfl rfl dX1_keepChoice_8 ?_
  refine lv_topi (fun x_1 ex_1 => ?_)
  have ex_1 : x_1 = Int32.ofNat nv_choices := ex_1
  have k_56 : ∀ (v_choiceCount_56 : Int32) (v_choices_56 : Nat → Int32) (v_heights_56 : Nat → Int32), ∀ (H_b56 : Heap) (locs_b56 : List Loc) (ls_b56 : Array Slot) (q1_b56 q2_b56 : Nat), w_X1_keepChoice_56 p1 p2 v_place v_trailCount nv_choices nv_heights h1 h2 Q v_choiceCount_56 v_choices_56 v_heights_56 → va_P (dC, dI) vwCl [(h0, .inr (4, oX1 v_steps (.ref h4) (.ref h5) v_wholeOnly v_start v_mode v_node v_place v_limit v_verdict (.ref h6) (.ref h7) (.ref h8) (.ref h9) (.ref h1) (.ref h2) v_choiceCount_56 (.ref h3) v_trailCount)), (h1, .inl (k0, nv_choices, .inl v_choices_56)), (h2, .inl (k1, nv_heights, .inl v_heights_56)), (h3, .inl (k2, nv_trail, .inl v_trail))] H_b56 → va_D A [(h0, .inr (4, oX1 v_steps (.ref h4) (.ref h5) v_wholeOnly v_start v_mode v_node v_place v_limit v_verdict (.ref h6) (.ref h7) (.ref h8) (.ref h9) (.ref h1) (.ref h2) v_choiceCount_56 (.ref h3) v_trailCount)), (h1, .inl (k0, nv_choices, .inl v_choices_56)), (h2, .inl (k1, nv_heights, .inl v_heights_56)), (h3, .inl (k2, nv_trail, .inl v_trail))] → va_S A s.heap H_b56 locs_b56 → lv_has ls_b56 3 [(0, .ref h0), (1, .int p1), (2, .int p2)] → gLn nv_choices nv_heights nv_trail q1_b56 q2_b56 → q1_b56 ≤ qc → q2_b56 ≤ qs → W p l e ({ frames := 2, cells := qc, slots := qs, locals := 62 } : Room) s m ([.ref h0, .int p1, .int p2]).toArray below meth c H_b56 locs_b56 (qc - q1_b56) (qs - q2_b56) QQ (F0 m 56 ls_b56 []) := by
    intro v_choiceCount_56 v_choices_56 v_heights_56 H_b56 locs_b56 ls_b56 q1_b56 q2_b56 w_b56 hP_b56 hD_b56 hS_b56 hl_b56 hL_b56 hq1_b56 hq2_b56
    unfold w_X1_keepChoice_56 at w_b56
    refine lv_aload_n hx hb dX1_keepChoice_56 rfl (lv_at hl_b56 0 rfl) ?_
    refine va_get (D := (dC, dI)) (ci := 4) (v := .int v_choiceCount_56) (C := RX1) (T := TX1) (N := 19) hx hb ht inX1 hown hK hP_b56 0 rfl rfl 16 (by decide) (ht _ tw_537) (fun _ h9 => h9) rfl dX1_keepChoice_57 ?_
    have k_133 : ∀ (v_choiceCount_133 : Int32) (v_choices_133 : Nat → Int32) (v_heights_133 : Nat → Int32), ∀ (H_b133 : Heap) (locs_b133 : List Loc) (ls_b133 : Array Slot) (q1_b133 q2_b133 : Nat), w_X1_keepChoice_133 nv_choices nv_heights h1 h2 Q v_choiceCount_133 v_choices_133 v_heights_133 → va_P (dC, dI) vwCl [(h0, .inr (4, oX1 v_steps (.ref h4) (.ref h5) v_wholeOnly v_start v_mode v_node v_place v_limit v_verdict (.ref h6) (.ref h7) (.ref h8) (.ref h9) (.ref h1) (.ref h2) v_choiceCount_133 (.ref h3) v_trailCount)), (h1, .inl (k0, nv_choices, .inl v_choices_133)), (h2, .inl (k1, nv_heights, .inl v_heights_133)), (h3, .inl (k2, nv_trail, .inl v_trail))] H_b133 → va_D A [(h0, .inr (4, oX1 v_steps (.ref h4) (.ref h5) v_wholeOnly v_start v_mode v_node v_place v_limit v_verdict (.ref h6) (.ref h7) (.ref h8) (.ref h9) (.ref h1) (.ref h2) v_choiceCount_133 (.ref h3) v_trailCount)), (h1, .inl (k0, nv_choices, .inl v_choices_133)), (h2, .inl (k1, nv_heights, .inl v_heights_133)), (h3, .inl (k2, nv_trail, .inl v_trail))] → va_S A s.heap H_b133 locs_b133 → lv_has ls_b133 3 [] → gLn nv_choices nv_heights nv_trail q1_b133 q2_b133 → q1_b133 ≤ qc → q2_b133 ≤ qs → W p l e ({ frames := 2, cells := qc, slots := qs, locals := 62 } : Room) s m ([.ref h0, .int p1, .int p2]).toArray below meth c H_b133 locs_b133 (qc - q1_b133) (qs - q2_b133) QQ (F0 m 133 ls_b133 []) := by
      intro v_choiceCount_133 v_choices_133 v_heights_133 H_b133 locs_b133 ls_b133 q1_b133 q2_b133 w_b133 hP_b133 hD_b133 hS_b133 hl_b133 hL_b133 hq1_b133 hq2_b133
      unfold w_X1_keepChoice_133 at w_b133
      have hP_2 := hP_b133.sub (ws' := [(h0, .inr (4, oX1 v_steps (.ref h4) (.ref h5) v_wholeOnly v_start v_mode v_node v_place v_limit v_verdict (.ref h6) (.ref h7) (.ref h8) (.ref h9) (.ref h1) (.ref h2) v_choiceCount_133 (.ref h3) v_trailCount)), (h1, .inl (k0, nv_choices, .inl v_choices_133)), (h2, .inl (k1, nv_heights, .inl v_heights_133)), (h3, .inl (k2, nv_trail, .inl v_trail))]) [0, 1, 2, 3] rfl
      have hD_2 := hD_b133.sub (ws' := [(h0, .inr (4, oX1 v_steps (.ref h4) (.ref h5) v_wholeOnly v_start v_mode v_node v_place v_limit v_verdict (.ref h6) (.ref h7) (.ref h8) (.ref h9) (.ref h1) (.ref h2) v_choiceCount_133 (.ref h3) v_trailCount)), (h1, .inl (k0, nv_choices, .inl v_choices_133)), (h2, .inl (k1, nv_heights, .inl v_heights_133)), (h3, .inl (k2, nv_trail, .inl v_trail))]) [0, 1, 2, 3] (by decide) rfl
      refine W_gain (fun ga_3 gb_3 gc_3 gd_3 => ?_)
      refine W.widen (k := qc) (n := qs) (by omega) (by omega) ?_
      rw [hQQ]
      exact W.vret hx hb hr (fun t9 ht9 hW9 => ⟨⟨0, rfl, rfl, ⟨v_choiceCount_133, h1, v_choices_133, nv_choices, h2, v_heights_133, nv_heights, q1_b133, q2_b133, w_b133, ⟨hL_b133, hq1_b133, hq2_b133, by rw [ht9]; omega, by rw [ht9]; omega⟩, by rw [ht9]; exact hP_2, hD_2⟩⟩, hS_b133.F ht9⟩) hS_b133.2.2 dX1_keepChoice_133
    refine lv_if_lt (tgt := 133) hx hb dX1_keepChoice_60 (by decide) (fun c_4 => ?_) (fun c_4 => ?_)
    · exact k_133 v_choiceCount_56 v_choices_56 v_heights_56 _ _ _ _ _ (w_b56.1 c_4) hP_b56 hD_b56 hS_b56 (lv_sub hl_b56 [] rfl) hL_b56 hq1_b56 hq2_b56
    · refine lv_aload_n hx hb dX1_keepChoice_63 rfl (lv_at hl_b56 0 rfl) ?_
      refine va_get (D := (dC, dI)) (ci := 4) (v := .int v_choiceCount_56) (C := RX1) (T := TX1) (N := 19) hx hb ht inX1 hown hK hP_b56 0 rfl rfl 16 (by decide) (ht _ tw_537) (fun _ h9 => h9) rfl dX1_keepChoice_64 ?_
      refine lv_aload_n hx hb dX1_keepChoice_67 rfl (lv_at hl_b56 0 rfl) ?_
      refine va_get (D := (dC, dI)) (ci := 4) (v := .ref h1) (C := RX1) (T := TX1) (N := 19) hx hb ht inX1 hown hK hP_b56 0 rfl rfl 14 (by decide) (ht _ tw_535) (fun _ h9 => h9) rfl dX1_keepChoice_68 ?_
      refine va_alen hx hb hK hP_b56 1 0 rfl rfl rfl dX1_keepChoice_71 ?_
      refine lv_topi (fun x_5 ex_5 => ?_)
      have ex_5 : x_5 = Int32.ofNat nv_choices := ex_5
      refine lv_icmp_ge (tgt := 133) hx hb dX1_keepChoice_72 (by decide) (fun c_6 => ?_) (fun c_6 => ?_)
      · exact k_133 v_choiceCount_56 v_choices_56 v_heights_56 _ _ _ _ _ ((w_b56.2 c_4 x_5 ex_5).1 c_6) hP_b56 hD_b56 hS_b56 (lv_sub hl_b56 [] rfl) hL_b56 hq1_b56 hq2_b56
      · refine lv_aload_n hx hb dX1_keepChoice_75 rfl (lv_at hl_b56 0 rfl) ?_
        refine va_get (D := (dC, dI)) (ci := 4) (v := .int v_choiceCount_56) (C := RX1) (T := TX1) (N := 19) hx hb ht inX1 hown hK hP_b56 0 rfl rfl 16 (by decide) (ht _ tw_537) (fun _ h9 => h9) rfl dX1_keepChoice_76 ?_
        refine lv_aload_n hx hb dX1_keepChoice_79 rfl (lv_at hl_b56 0 rfl) ?_
        refine va_get (D := (dC, dI)) (ci := 4) (v := .ref h2) (C := RX1) (T := TX1) (N := 19) hx hb ht inX1 hown hK hP_b56 0 rfl rfl 15 (by decide) (ht _ tw_536) (fun _ h9 => h9) rfl dX1_keepChoice_80 ?_
        refine va_alen hx hb hK hP_b56 2 1 rfl rfl rfl dX1_keepChoice_83 ?_
        refine lv_topi (fun x_7 ex_7 => ?_)
        have ex_7 : x_7 = Int32.ofNat nv_heights := ex_7
        refine lv_icmp_ge (tgt := 133) hx hb dX1_keepChoice_84 (by decide) (fun c_8 => ?_) (fun c_8 => ?_)
        · have w_9 := (((w_b56.2 c_4 x_5 ex_5).2 c_6) x_7 ex_7).1 c_8
          exact k_133 v_choiceCount_56 v_choices_56 v_heights_56 _ _ _ _ _ w_9 hP_b56 hD_b56 hS_b56 (lv_sub hl_b56 [] rfl) hL_b56 hq1_b56 hq2_b56
        · refine lv_aload_n hx hb dX1_keepChoice_87 rfl (lv_at hl_b56 0 rfl) ?_
          refine va_get (D := (dC, dI)) (ci := 4) (v := .ref h1) (C := RX1) (T := TX1) (N := 19) hx hb ht inX1 hown hK hP_b56 0 rfl rfl 14 (by decide) (ht _ tw_535) (fun _ h9 => h9) rfl dX1_keepChoice_88 ?_
          refine lv_aload_n hx hb dX1_keepChoice_91 rfl (lv_at hl_b56 0 rfl) ?_
          refine va_get (D := (dC, dI)) (ci := 4) (v := .int v_choiceCount_56) (C := RX1) (T := TX1) (N := 19) hx hb ht inX1 hown hK hP_b56 0 rfl rfl 16 (by decide) (ht _ tw_537) (fun _ h9 => h9) rfl dX1_keepChoice_92 ?_
          refine lv_iload_n hx hb dX1_keepChoice_95 rfl (lv_at hl_b56 2 rfl) ?_
          refine lv_iconst (v := 4) hx hb dX1_keepChoice_96 (by decide) ?_
          refine lv_imul hx hb dX1_keepChoice_97 ?_
          refine lv_topi (fun x_10 ex_10 => ?_)
          have ex_10 : x_10 = p2 * (4 : Int32) := ex_10
          refine lv_iload_n hx hb dX1_keepChoice_98 rfl (lv_at hl_b56 1 rfl) ?_
          refine lv_iadd hx hb dX1_keepChoice_99 ?_
          refine lv_topi (fun x_11 ex_11 => ?_)
          have ex_11 : x_11 = x_10 + p1 := ex_11
          refine lv_sipush (v := 128) hx hb dX1_keepChoice_100 (by decide) ?_
          refine lv_imul hx hb dX1_keepChoice_103 ?_
          refine lv_topi (fun x_12 ex_12 => ?_)
          have ex_12 : x_12 = x_11 * (128 : Int32) := ex_12
          refine lv_aload_n hx hb dX1_keepChoice_104 rfl (lv_at hl_b56 0 rfl) ?_
          refine va_get (D := (dC, dI)) (ci := 4) (v := .int v_place) (C := RX1) (T := TX1) (N := 19) hx hb ht inX1 hown hK hP_b56 0 rfl rfl 7 (by decide) (ht _ tw_528) (fun _ h9 => h9) rfl dX1_keepChoice_105 ?_
          refine lv_iadd hx hb dX1_keepChoice_108 ?_
          refine lv_topi (fun x_13 ex_13 => ?_)
          have ex_13 : x_13 = x_12 + v_place := ex_13
          have w_14 := (((((((w_b56.2 c_4 x_5 ex_5).2 c_6) x_7 ex_7).2 c_8) x_10 ex_10) x_11 ex_11) x_12 ex_12) x_13 ex_13
          refine va_iast hx hb hK hP_b56 hD_b56 hS_b56 1 0 rfl rfl (i := v_choiceCount_56) w_14.1 dX1_keepChoice_109 (fun H_15 locs_15 hP_15 hD_15 hS_15 => ?_)
          obtain ⟨g_15, hg_15⟩ : ∃ g : Nat → Int32, g = upd v_choices_56 v_choiceCount_56.toNatClampNeg x_13 := ⟨_, rfl⟩
          have hP_15 : va_P (dC, dI) vwCl [(h0, .inr (4, oX1 v_steps (.ref h4) (.ref h5) v_wholeOnly v_start v_mode v_node v_place v_limit v_verdict (.ref h6) (.ref h7) (.ref h8) (.ref h9) (.ref h1) (.ref h2) v_choiceCount_56 (.ref h3) v_trailCount)), (h1, .inl (k0, nv_choices, .inl g_15)), (h2, .inl (k1, nv_heights, .inl v_heights_56)), (h3, .inl (k2, nv_trail, .inl v_trail))] H_15 := by rw [hg_15]; exact hP_15
          have hD_15 : va_D A [(h0, .inr (4, oX1 v_steps (.ref h4) (.ref h5) v_wholeOnly v_start v_mode v_node v_place v_limit v_verdict (.ref h6) (.ref h7) (.ref h8) (.ref h9) (.ref h1) (.ref h2) v_choiceCount_56 (.ref h3) v_trailCount)), (h1, .inl (k0, nv_choices, .inl g_15)), (h2, .inl (k1, nv_heights, .inl v_heights_56)), (h3, .inl (k2, nv_trail, .inl v_trail))] := by rw [hg_15]; exact hD_15
          refine lv_aload_n hx hb dX1_keepChoice_110 rfl (lv_at hl_b56 0 rfl) ?_
          refine va_get (D := (dC, dI)) (ci := 4) (v := .ref h2) (C := RX1) (T := TX1) (N := 19) hx hb ht inX1 hown hK hP_15 0 rfl rfl 15 (by decide) (ht _ tw_536) (fun _ h9 => h9) rfl dX1_keepChoice_111 ?_
          refine lv_aload_n hx hb dX1_keepChoice_114 rfl (lv_at hl_b56 0 rfl) ?_
          refine va_get (D := (dC, dI)) (ci := 4) (v := .int v_choiceCount_56) (C := RX1) (T := TX1) (N := 19) hx hb ht inX1 hown hK hP_15 0 rfl rfl 16 (by decide) (ht _ tw_537) (fun _ h9 => h9) rfl dX1_keepChoice_115 ?_
          refine lv_aload_n hx hb dX1_keepChoice_118 rfl (lv_at hl_b56 0 rfl) ?_
          refine va_get (D := (dC, dI)) (ci := 4) (v := .int v_trailCount) (C := RX1) (T := TX1) (N := 19) hx hb ht inX1 hown hK hP_15 0 rfl rfl 18 (by decide) (ht _ tw_539) (fun _ h9 => h9) rfl dX1_keepChoice_119 ?_
          refine va_iast hx hb hK hP_15 hD_15 hS_15 2 1 rfl rfl (i := v_choiceCount_56) (w_14.2 g_15 hg_15).1 dX1_keepChoice_122 (fun H_16 locs_16 hP_16 hD_16 hS_16 => ?_)
          obtain ⟨g_16, hg_16⟩ : ∃ g : Nat → Int32, g = upd v_heights_56 v_choiceCount_56.toNatClampNeg v_trailCount := ⟨_, rfl⟩
          have hP_16 : va_P (dC, dI) vwCl [(h0, .inr (4, oX1 v_steps (.ref h4) (.ref h5) v_wholeOnly v_start v_mode v_node v_place v_limit v_verdict (.ref h6) (.ref h7) (.ref h8) (.ref h9) (.ref h1) (.ref h2) v_choiceCount_56 (.ref h3) v_trailCount)), (h1, .inl (k0, nv_choices, .inl g_15)), (h2, .inl (k1, nv_heights, .inl g_16)), (h3, .inl (k2, nv_trail, .inl v_trail))] H_16 := by rw [hg_16]; exact hP_16
          have hD_16 : va_D A [(h0, .inr (4, oX1 v_steps (.ref h4) (.ref h5) v_wholeOnly v_start v_mode v_node v_place v_limit v_verdict (.ref h6) (.ref h7) (.ref h8) (.ref h9) (.ref h1) (.ref h2) v_choiceCount_56 (.ref h3) v_trailCount)), (h1, .inl (k0, nv_choices, .inl g_15)), (h2, .inl (k1, nv_heights, .inl g_16)), (h3, .inl (k2, nv_trail, .inl v_trail))] := by rw [hg_16]; exact hD_16
          refine lv_aload_n hx hb dX1_keepChoice_123 rfl (lv_at hl_b56 0 rfl) ?_
          refine lv_dup hx hb dX1_keepChoice_124 rfl ?_
          refine va_get (D := (dC, dI)) (ci := 4) (v := .int v_choiceCount_56) (C := RX1) (T := TX1) (N := 19) hx hb ht inX1 hown hK hP_16 0 rfl rfl 16 (by decide) (ht _ tw_537) (fun _ h9 => h9) rfl dX1_keepChoice_125 ?_
          refine lv_iconst (v := 1) hx hb dX1_keepChoice_128 (by decide) ?_
          refine lv_iadd hx hb dX1_keepChoice_129 ?_
          refine lv_topi (fun x_17 ex_17 => ?_)
          have ex_17 : x_17 = v_choiceCount_56 + (1 : Int32) := ex_17
          refine va_put (D := (dC, dI)) (ci := 4) (v := .int x_17) (ty := .int) (C := RX1) (T := TX1) (N := 19) hx hb ht inX1 tyX1 tyX1_ok nmX1 hown hK hP_16 hD_16 hS_16 0 rfl rfl 16 (by decide) (ht _ tw_537) (fun _ h9 => h9) rfl (by decide +kernel) rfl rfl (Nat.le_of_ble_eq_true rfl) dX1_keepChoice_130 (fun H_18 locs_18 hP_18 hD_18 hS_18 => ?_)
          have hP_18 : va_P (dC, dI) vwCl [(h0, .inr (4, oX1 v_steps (.ref h4) (.ref h5) v_wholeOnly v_start v_mode v_node v_place v_limit v_verdict (.ref h6) (.ref h7) (.ref h8) (.ref h9) (.ref h1) (.ref h2) x_17 (.ref h3) v_trailCount)), (h1, .inl (k0, nv_choices, .inl g_15)), (h2, .inl (k1, nv_heights, .inl g_16)), (h3, .inl (k2, nv_trail, .inl v_trail))] H_18 := hP_18
          have hD_18 : va_D A [(h0, .inr (4, oX1 v_steps (.ref h4) (.ref h5) v_wholeOnly v_start v_mode v_node v_place v_limit v_verdict (.ref h6) (.ref h7) (.ref h8) (.ref h9) (.ref h1) (.ref h2) x_17 (.ref h3) v_trailCount)), (h1, .inl (k0, nv_choices, .inl g_15)), (h2, .inl (k1, nv_heights, .inl g_16)), (h3, .inl (k2, nv_trail, .inl v_trail))] := hD_18
          have w_19 := (((w_14.2 g_15 hg_15).2) g_16 hg_16) x_17 ex_17
          exact k_133 x_17 g_15 g_16 _ _ _ _ _ w_19 hP_18 hD_18 hS_18 (lv_sub hl_b56 [] rfl) hL_b56 hq1_b56 hq2_b56
  refine lv_icmp_lt (tgt := 56) hx hb dX1_keepChoice_9 (by decide) (fun c_20 => ?_) (fun c_20 => ?_)
  · exact k_56 v_choiceCount v_choices v_heights _ _ _ _ _ ((w x_1 ex_1).1 c_20) hP hD hS (lv_sub hl [0, 1, 2] rfl) hL hq1 hq2
  · refine lv_aload_n hx hb dX1_keepChoice_12 rfl (lv_at hl 0 rfl) ?_
    refine va_get (D := (dC, dI)) (ci := 4) (v := .ref h1) (C := RX1) (T := TX1) (N := 19) hx hb ht inX1 hown hK hP 0 rfl rfl 14 (by decide) (ht _ tw_535) (fun _ h9 => h9) rfl dX1_keepChoice_13 ?_
    refine va_alen hx hb hK hP 1 0 rfl rfl rfl dX1_keepChoice_16 ?_
    refine lv_topi (fun x_21 ex_21 => ?_)
    have ex_21 : x_21 = Int32.ofNat nv_choices := ex_21
    refine lv_ldc hx hb hown (ht _ tw_1644) dX1_keepChoice_17 ?_
    refine lv_icmp_ge (tgt := 56) hx hb dX1_keepChoice_19 (by decide) (fun c_22 => ?_) (fun c_22 => ?_)
    · have w_23 := (((w x_1 ex_1).2 c_20) x_21 ex_21).1 c_22
      exact k_56 v_choiceCount v_choices v_heights _ _ _ _ _ w_23 hP hD hS (lv_sub hl [0, 1, 2] rfl) hL hq1 hq2
    · refine lv_aload_n hx hb dX1_keepChoice_22 rfl (lv_at hl 0 rfl) ?_
      refine lv_aload_n hx hb dX1_keepChoice_23 rfl (lv_at hl 0 rfl) ?_
      refine va_get (D := (dC, dI)) (ci := 4) (v := .ref h1) (C := RX1) (T := TX1) (N := 19) hx hb ht inX1 hown hK hP 0 rfl rfl 14 (by decide) (ht _ tw_535) (fun _ h9 => h9) rfl dX1_keepChoice_24 ?_
      refine lv_aload_n hx hb dX1_keepChoice_27 rfl (lv_at hl 0 rfl) ?_
      refine va_get (D := (dC, dI)) (ci := 4) (v := .ref h1) (C := RX1) (T := TX1) (N := 19) hx hb ht inX1 hown hK hP 0 rfl rfl 14 (by decide) (ht _ tw_535) (fun _ h9 => h9) rfl dX1_keepChoice_28 ?_
      refine va_alen hx hb hK hP 1 0 rfl rfl rfl dX1_keepChoice_31 ?_
      refine lv_topi (fun x_24 ex_24 => ?_)
      have ex_24 : x_24 = Int32.ofNat nv_choices := ex_24
      refine lv_iconst (v := 2) hx hb dX1_keepChoice_32 (by decide) ?_
      refine lv_imul hx hb dX1_keepChoice_33 ?_
      refine lv_topi (fun x_25 ex_25 => ?_)
      have ex_25 : x_25 = x_24 * (2 : Int32) := ex_25
      have w_27 := (((((w x_1 ex_1).2 c_20) x_21 ex_21).2 c_22) x_24 ex_24) x_25 ex_25
      obtain ⟨hL_26, hc_26, hs_26⟩ := gLn_c hL w_27.2.2.1
      have hb_26 := gLn_b hL
      have hcp_26 := cpy_ok (n := nv_choices) (N := 2 * nv_choices) w_27.2.1 w_27.1 (by omega) (by omega)
      have hPc_26 := hP.sub (ws' := [(h1, .inl (k0, nv_choices, .inl v_choices))]) [1] rfl
      have hDc_26 := hD.sub (ws' := [(h1, .inl (k0, nv_choices, .inl v_choices))]) [1] (by decide) rfl
      have hKc_26 := hK.sub (tys' := [(k0, .int)]) [0] rfl
      have hFc_26 := va_free (wc := [(h1, .inl (k0, nv_choices, .inl v_choices))]) hD hS hA [1] rfl
      refine va_callr (va_runS (As := [.ref h1, .int x_25]) (rest := [.ref h0]) ⟨hx, hb, hml, hown, ht⟩ (mt_copyOf l dC dI h1 k0 x_25 nv_choices (2 * nv_choices) v_choices hcp_26.1 w_27.1 w_27.2.1 (by omega) hcp_26.2.1 hcp_26.2.2.1 hcp_26.2.2.2 s.heap.size) (va_cwS 2 ht (goodSS tw_1645 tw_1646 tw_250 gw_J7_copyOf_59c91) rfl rfl rfl (by decide +kernel) ⟨Nat.le_of_ble_eq_true rfl, Nat.le_of_ble_eq_true rfl⟩) ⟨fun a U g mk q => by obtain ⟨q0, q1, qP, qK, qD⟩ := q; exact ⟨q0, q1, qP, va_K.moved (u := U) (U := U.calling g mk a) (Vm.Alike.refl U.vm) qK, qD⟩, fun U hU hW => ⟨rfl, by rw [hU], by rw [hU]; exact hPc_26, va_K.moved hW.alike hKc_26, hDc_26.weaken (fun _ _ _ _ => trivial)⟩⟩ rfl rfl hl.1 rfl (lv_room (Nat.le_of_ble_eq_true rfl)) dX1_keepChoice_34 ⟨by dsimp only; omega, by dsimp only; omega⟩) hS (fun q _ h => hFc_26 q h) hFc_26 (fun u_26 ra_26 t_26 H_26 locs_26 ht_26 hvm_26 hw_26 hB_26 hz_26 hk_26 hS_26 => ?_)
      obtain ⟨g_26, hP1_26, hD1_26⟩ := hB_26
      rw [ht_26] at hP1_26
      obtain ⟨hP_26, hD_26⟩ := va_join (wr := [(h0, .inr (4, oX1 v_steps (.ref h4) (.ref h5) v_wholeOnly v_start v_mode v_node v_place v_limit v_verdict (.ref h6) (.ref h7) (.ref h8) (.ref h9) (.ref h1) (.ref h2) v_choiceCount (.ref h3) v_trailCount)), (h2, .inl (k1, nv_heights, .inl v_heights)), (h3, .inl (k2, nv_trail, .inl v_trail))]) (w1 := [(h1, .inl (k0, nv_choices, .inl v_choices)), (ra_26, .inl (k0, (2 * nv_choices), .inl g_26))]) hP hD [1] [0, 2, 3] rfl rfl (by decide) (by decide) hk_26 hFc_26 hP1_26 hD1_26
      have hP_26 := hP_26.sub (ws' := [(h0, .inr (4, oX1 v_steps (.ref h4) (.ref h5) v_wholeOnly v_start v_mode v_node v_place v_limit v_verdict (.ref h6) (.ref h7) (.ref h8) (.ref h9) (.ref h1) (.ref h2) v_choiceCount (.ref h3) v_trailCount)), (h1, .inl (k0, nv_choices, .inl v_choices)), (h2, .inl (k1, nv_heights, .inl v_heights)), (h3, .inl (k2, nv_trail, .inl v_trail)), (ra_26, .inl (k0, (2 * nv_choices), .inl g_26))]) [0, 3, 1, 2, 4] rfl
      have hD_26 := hD_26.sub (ws' := [(h0, .inr (4, oX1 v_steps (.ref h4) (.ref h5) v_wholeOnly v_start v_mode v_node v_place v_limit v_verdict (.ref h6) (.ref h7) (.ref h8) (.ref h9) (.ref h1) (.ref h2) v_choiceCount (.ref h3) v_trailCount)), (h1, .inl (k0, nv_choices, .inl v_choices)), (h2, .inl (k1, nv_heights, .inl v_heights)), (h3, .inl (k2, nv_trail, .inl v_trail)), (ra_26, .inl (k0, (2 * nv_choices), .inl g_26))]) [0, 3, 1, 2, 4] (by decide) rfl
      clear hPc_26 hDc_26 hKc_26 hFc_26 hP1_26 hD1_26 hk_26 hz_26
      refine W_eqc (c2 := qc - (qc - 1)) (s2 := qs - (qs - 2 * nv_choices)) (by omega) (by omega) ?_
      have hq1_26 : (qc - 1) ≤ qc := by omega
      have hq2_26 : (qs - 2 * nv_choices) ≤ qs := by omega
      refine va_put (D := (dC, dI)) (ci := 4) (v := .ref ra_26) (ty := .array .int) (C := RX1) (T := TX1) (N := 19) hx hb ht inX1 tyX1 tyX1_ok nmX1 hown hK hP_26 hD_26 hS_26 0 rfl rfl 14 (by decide) (ht _ tw_535) (fun _ h9 => h9) rfl (by decide +kernel) rfl rfl (Nat.le_of_ble_eq_true rfl) dX1_keepChoice_37 (fun H_28 locs_28 hP_28 hD_28 hS_28 => ?_)
      have hP_28 : va_P (dC, dI) vwCl [(h0, .inr (4, oX1 v_steps (.ref h4) (.ref h5) v_wholeOnly v_start v_mode v_node v_place v_limit v_verdict (.ref h6) (.ref h7) (.ref h8) (.ref h9) (.ref ra_26) (.ref h2) v_choiceCount (.ref h3) v_trailCount)), (h1, .inl (k0, nv_choices, .inl v_choices)), (h2, .inl (k1, nv_heights, .inl v_heights)), (h3, .inl (k2, nv_trail, .inl v_trail)), (ra_26, .inl (k0, (2 * nv_choices), .inl g_26))] H_28 := hP_28
      have hD_28 : va_D A [(h0, .inr (4, oX1 v_steps (.ref h4) (.ref h5) v_wholeOnly v_start v_mode v_node v_place v_limit v_verdict (.ref h6) (.ref h7) (.ref h8) (.ref h9) (.ref ra_26) (.ref h2) v_choiceCount (.ref h3) v_trailCount)), (h1, .inl (k0, nv_choices, .inl v_choices)), (h2, .inl (k1, nv_heights, .inl v_heights)), (h3, .inl (k2, nv_trail, .inl v_trail)), (ra_26, .inl (k0, (2 * nv_choices), .inl g_26))] := hD_28
      refine lv_aload_n hx hb dX1_keepChoice_40 rfl (lv_at hl 0 rfl) ?_
      refine lv_aload_n hx hb dX1_keepChoice_41 rfl (lv_at hl 0 rfl) ?_
      refine va_get (D := (dC, dI)) (ci := 4) (v := .ref h2) (C := RX1) (T := TX1) (N := 19) hx hb ht inX1 hown hK hP_28 0 rfl rfl 15 (by decide) (ht _ tw_536) (fun _ h9 => h9) rfl dX1_keepChoice_42 ?_
      refine lv_aload_n hx hb dX1_keepChoice_45 rfl (lv_at hl 0 rfl) ?_
      refine va_get (D := (dC, dI)) (ci := 4) (v := .ref ra_26) (C := RX1) (T := TX1) (N := 19) hx hb ht inX1 hown hK hP_28 0 rfl rfl 14 (by decide) (ht _ tw_535) (fun _ h9 => h9) rfl dX1_keepChoice_46 ?_
      refine va_alen hx hb hK hP_28 4 0 rfl rfl rfl dX1_keepChoice_49 ?_
      refine lv_topi (fun x_29 ex_29 => ?_)
      have ex_29 : x_29 = Int32.ofNat (2 * nv_choices) := ex_29
      have hcp_30 := cpy_ok (n := nv_heights) (N := 2 * nv_heights) ((w_27.2.2.2 g_26 ra_26 x_29 ex_29).2).1 (w_27.2.2.2 g_26 ra_26 x_29 ex_29).1 (by omega) (by omega)
      have hPc_30 := hP_28.sub (ws' := [(h2, .inl (k1, nv_heights, .inl v_heights))]) [2] rfl
      have hDc_30 := hD_28.sub (ws' := [(h2, .inl (k1, nv_heights, .inl v_heights))]) [2] (by decide) rfl
      have hKc_30 := hK.sub (tys' := [(k1, .int)]) [1] rfl
      have hFc_30 := va_free (wc := [(h2, .inl (k1, nv_heights, .inl v_heights))]) hD_28 hS_28 hA [2] rfl
      refine va_callr (va_runS (As := [.ref h2, .int x_29]) (rest := [.ref h0]) ⟨hx, hb, hml, hown, ht⟩ (mt_copyOf l dC dI h2 k1 x_29 nv_heights (2 * nv_heights) v_heights hcp_30.1 (w_27.2.2.2 g_26 ra_26 x_29 ex_29).1 ((w_27.2.2.2 g_26 ra_26 x_29 ex_29).2).1 (by omega) hcp_30.2.1 hcp_30.2.2.1 hcp_30.2.2.2 H_28.size) (va_cwS 2 ht (goodSS tw_1645 tw_1646 tw_250 gw_J7_copyOf_59c91) rfl rfl rfl (by decide +kernel) ⟨Nat.le_of_ble_eq_true rfl, Nat.le_of_ble_eq_true rfl⟩) ⟨fun a U g mk q => by obtain ⟨q0, q1, qP, qK, qD⟩ := q; exact ⟨q0, q1, qP, va_K.moved (u := U) (U := U.calling g mk a) (Vm.Alike.refl U.vm) qK, qD⟩, fun U hU hW => ⟨rfl, by rw [hU], by rw [hU]; exact hPc_30, va_K.moved hW.alike hKc_30, hDc_30.weaken (fun _ _ _ _ => trivial)⟩⟩ rfl rfl hl.1 rfl (lv_room (Nat.le_of_ble_eq_true rfl)) dX1_keepChoice_50 ⟨by dsimp only; omega, by dsimp only; omega⟩) hS_28 (fun q _ h => hFc_30 q h) hFc_30 (fun u_30 ra_30 t_30 H_30 locs_30 ht_30 hvm_30 hw_30 hB_30 hz_30 hk_30 hS_30 => ?_)
      obtain ⟨g_30, hP1_30, hD1_30⟩ := hB_30
      rw [ht_30] at hP1_30
      obtain ⟨hP_30, hD_30⟩ := va_join (wr := [(h0, .inr (4, oX1 v_steps (.ref h4) (.ref h5) v_wholeOnly v_start v_mode v_node v_place v_limit v_verdict (.ref h6) (.ref h7) (.ref h8) (.ref h9) (.ref ra_26) (.ref h2) v_choiceCount (.ref h3) v_trailCount)), (h1, .inl (k0, nv_choices, .inl v_choices)), (h3, .inl (k2, nv_trail, .inl v_trail)), (ra_26, .inl (k0, (2 * nv_choices), .inl g_26))]) (w1 := [(h2, .inl (k1, nv_heights, .inl v_heights)), (ra_30, .inl (k1, (2 * nv_heights), .inl g_30))]) hP_28 hD_28 [2] [0, 1, 3, 4] rfl rfl (by decide) (by decide) hk_30 hFc_30 hP1_30 hD1_30
      have hP_30 := hP_30.sub (ws' := [(h0, .inr (4, oX1 v_steps (.ref h4) (.ref h5) v_wholeOnly v_start v_mode v_node v_place v_limit v_verdict (.ref h6) (.ref h7) (.ref h8) (.ref h9) (.ref ra_26) (.ref h2) v_choiceCount (.ref h3) v_trailCount)), (h1, .inl (k0, nv_choices, .inl v_choices)), (h2, .inl (k1, nv_heights, .inl v_heights)), (h3, .inl (k2, nv_trail, .inl v_trail)), (ra_26, .inl (k0, (2 * nv_choices), .inl g_26)), (ra_30, .inl (k1, (2 * nv_heights), .inl g_30))]) [0, 1, 4, 2, 3, 5] rfl
      have hD_30 := hD_30.sub (ws' := [(h0, .inr (4, oX1 v_steps (.ref h4) (.ref h5) v_wholeOnly v_start v_mode v_node v_place v_limit v_verdict (.ref h6) (.ref h7) (.ref h8) (.ref h9) (.ref ra_26) (.ref h2) v_choiceCount (.ref h3) v_trailCount)), (h1, .inl (k0, nv_choices, .inl v_choices)), (h2, .inl (k1, nv_heights, .inl v_heights)), (h3, .inl (k2, nv_trail, .inl v_trail)), (ra_26, .inl (k0, (2 * nv_choices), .inl g_26)), (ra_30, .inl (k1, (2 * nv_heights), .inl g_30))]) [0, 1, 4, 2, 3, 5] (by decide) rfl
      clear hPc_30 hDc_30 hKc_30 hFc_30 hP1_30 hD1_30 hk_30 hz_30
      refine W_eqc (c2 := qc - (qc - 2)) (s2 := qs - (qs - 4 * nv_choices)) (by omega) (by omega) ?_
      have hq1_30 : (qc - 2) ≤ qc := by omega
      have hq2_30 : (qs - 4 * nv_choices) ≤ qs := by omega
      refine va_put (D := (dC, dI)) (ci := 4) (v := .ref ra_30) (ty := .array .int) (C := RX1) (T := TX1) (N := 19) hx hb ht inX1 tyX1 tyX1_ok nmX1 hown hK hP_30 hD_30 hS_30 0 rfl rfl 15 (by decide) (ht _ tw_536) (fun _ h9 => h9) rfl (by decide +kernel) rfl rfl (Nat.le_of_ble_eq_true rfl) dX1_keepChoice_53 (fun H_31 locs_31 hP_31 hD_31 hS_31 => ?_)
      have hP_31 : va_P (dC, dI) vwCl [(h0, .inr (4, oX1 v_steps (.ref h4) (.ref h5) v_wholeOnly v_start v_mode v_node v_place v_limit v_verdict (.ref h6) (.ref h7) (.ref h8) (.ref h9) (.ref ra_26) (.ref ra_30) v_choiceCount (.ref h3) v_trailCount)), (h1, .inl (k0, nv_choices, .inl v_choices)), (h2, .inl (k1, nv_heights, .inl v_heights)), (h3, .inl (k2, nv_trail, .inl v_trail)), (ra_26, .inl (k0, (2 * nv_choices), .inl g_26)), (ra_30, .inl (k1, (2 * nv_heights), .inl g_30))] H_31 := hP_31
      have hD_31 : va_D A [(h0, .inr (4, oX1 v_steps (.ref h4) (.ref h5) v_wholeOnly v_start v_mode v_node v_place v_limit v_verdict (.ref h6) (.ref h7) (.ref h8) (.ref h9) (.ref ra_26) (.ref ra_30) v_choiceCount (.ref h3) v_trailCount)), (h1, .inl (k0, nv_choices, .inl v_choices)), (h2, .inl (k1, nv_heights, .inl v_heights)), (h3, .inl (k2, nv_trail, .inl v_trail)), (ra_26, .inl (k0, (2 * nv_choices), .inl g_26)), (ra_30, .inl (k1, (2 * nv_heights), .inl g_30))] := hD_31
      refine lv_aload_n hx hb dX1_keepChoice_56 rfl (lv_at hl 0 rfl) ?_
      refine va_get (D := (dC, dI)) (ci := 4) (v := .int v_choiceCount) (C := RX1) (T := TX1) (N := 19) hx hb ht inX1 hown hK hP_31 0 rfl rfl 16 (by decide) (ht _ tw_537) (fun _ h9 => h9) rfl dX1_keepChoice_57 ?_
      have k_200133 : ∀ (v_choiceCount_200133 : Int32) (v_choices_200133 : Nat → Int32) (v_heights_200133 : Nat → Int32) (hN34_200133 : Nat) (vN34_200133 : Nat → Int32) (nN34_200133 : Nat) (hN50_200133 : Nat) (vN50_200133 : Nat → Int32) (nN50_200133 : Nat), ∀ (H_b200133 : Heap) (locs_b200133 : List Loc) (ls_b200133 : Array Slot) (q1_b200133 q2_b200133 : Nat), w_X1_keepChoice_200133 Q v_choiceCount_200133 v_choices_200133 v_heights_200133 hN34_200133 vN34_200133 nN34_200133 hN50_200133 vN50_200133 nN50_200133 → va_P (dC, dI) vwCl [(h0, .inr (4, oX1 v_steps (.ref h4) (.ref h5) v_wholeOnly v_start v_mode v_node v_place v_limit v_verdict (.ref h6) (.ref h7) (.ref h8) (.ref h9) (.ref hN34_200133) (.ref hN50_200133) v_choiceCount_200133 (.ref h3) v_trailCount)), (h1, .inl (k0, nv_choices, .inl v_choices_200133)), (h2, .inl (k1, nv_heights, .inl v_heights_200133)), (h3, .inl (k2, nv_trail, .inl v_trail)), (hN34_200133, .inl (k0, nN34_200133, .inl vN34_200133)), (hN50_200133, .inl (k1, nN50_200133, .inl vN50_200133))] H_b200133 → va_D A [(h0, .inr (4, oX1 v_steps (.ref h4) (.ref h5) v_wholeOnly v_start v_mode v_node v_place v_limit v_verdict (.ref h6) (.ref h7) (.ref h8) (.ref h9) (.ref hN34_200133) (.ref hN50_200133) v_choiceCount_200133 (.ref h3) v_trailCount)), (h1, .inl (k0, nv_choices, .inl v_choices_200133)), (h2, .inl (k1, nv_heights, .inl v_heights_200133)), (h3, .inl (k2, nv_trail, .inl v_trail)), (hN34_200133, .inl (k0, nN34_200133, .inl vN34_200133)), (hN50_200133, .inl (k1, nN50_200133, .inl vN50_200133))] → va_S A s.heap H_b200133 locs_b200133 → lv_has ls_b200133 3 [] → gLn nN34_200133 nN50_200133 nv_trail q1_b200133 q2_b200133 → q1_b200133 ≤ qc → q2_b200133 ≤ qs → W p l e ({ frames := 2, cells := qc, slots := qs, locals := 62 } : Room) s m ([.ref h0, .int p1, .int p2]).toArray below meth c H_b200133 locs_b200133 (qc - q1_b200133) (qs - q2_b200133) QQ (F0 m 133 ls_b200133 []) := by
        intro v_choiceCount_200133 v_choices_200133 v_heights_200133 hN34_200133 vN34_200133 nN34_200133 hN50_200133 vN50_200133 nN50_200133 H_b200133 locs_b200133 ls_b200133 q1_b200133 q2_b200133 w_b200133 hP_b200133 hD_b200133 hS_b200133 hl_b200133 hL_b200133 hq1_b200133 hq2_b200133
        unfold w_X1_keepChoice_200133 at w_b200133
        have ek_33 : k0 = k0 := va_kk hK 0 0 rfl rfl
        have ek_34 : k1 = k1 := va_kk hK 1 1 rfl rfl
        have hP_32 := hP_b200133.sub (ws' := [(h0, .inr (4, oX1 v_steps (.ref h4) (.ref h5) v_wholeOnly v_start v_mode v_node v_place v_limit v_verdict (.ref h6) (.ref h7) (.ref h8) (.ref h9) (.ref hN34_200133) (.ref hN50_200133) v_choiceCount_200133 (.ref h3) v_trailCount)), (hN34_200133, .inl (k0, nN34_200133, .inl vN34_200133)), (hN50_200133, .inl (k1, nN50_200133, .inl vN50_200133)), (h3, .inl (k2, nv_trail, .inl v_trail))]) [0, 4, 5, 3] rfl
        have hD_32 := hD_b200133.sub (ws' := [(h0, .inr (4, oX1 v_steps (.ref h4) (.ref h5) v_wholeOnly v_start v_mode v_node v_place v_limit v_verdict (.ref h6) (.ref h7) (.ref h8) (.ref h9) (.ref hN34_200133) (.ref hN50_200133) v_choiceCount_200133 (.ref h3) v_trailCount)), (hN34_200133, .inl (k0, nN34_200133, .inl vN34_200133)), (hN50_200133, .inl (k1, nN50_200133, .inl vN50_200133)), (h3, .inl (k2, nv_trail, .inl v_trail))]) [0, 4, 5, 3] (by decide) rfl
        subst ek_33
        subst ek_34
        refine W_gain (fun ga_35 gb_35 gc_35 gd_35 => ?_)
        refine W.widen (k := qc) (n := qs) (by omega) (by omega) ?_
        rw [hQQ]
        exact W.vret hx hb hr (fun t9 ht9 hW9 => ⟨⟨0, rfl, rfl, ⟨v_choiceCount_200133, hN34_200133, vN34_200133, nN34_200133, hN50_200133, vN50_200133, nN50_200133, q1_b200133, q2_b200133, w_b200133, ⟨hL_b200133, hq1_b200133, hq2_b200133, by rw [ht9]; omega, by rw [ht9]; omega⟩, by rw [ht9]; exact hP_32, hD_32⟩⟩, hS_b200133.F ht9⟩) hS_b200133.2.2 dX1_keepChoice_133
      have w_36 := (((w_27.2.2.2 g_26 ra_26 x_29 ex_29).2).2) g_30 ra_30
      refine lv_if_lt (tgt := 133) hx hb dX1_keepChoice_60 (by decide) (fun c_37 => ?_) (fun c_37 => ?_)
      · exact k_200133 v_choiceCount v_choices v_heights ra_26 g_26 (2 * nv_choices) ra_30 g_30 (2 * nv_heights) _ _ _ _ _ (w_36.1 c_37) hP_31 hD_31 hS_31 (lv_sub hl [] rfl) hL_26 hq1_30 hq2_30
      · refine lv_aload_n hx hb dX1_keepChoice_63 rfl (lv_at hl 0 rfl) ?_
        refine va_get (D := (dC, dI)) (ci := 4) (v := .int v_choiceCount) (C := RX1) (T := TX1) (N := 19) hx hb ht inX1 hown hK hP_31 0 rfl rfl 16 (by decide) (ht _ tw_537) (fun _ h9 => h9) rfl dX1_keepChoice_64 ?_
        refine lv_aload_n hx hb dX1_keepChoice_67 rfl (lv_at hl 0 rfl) ?_
        refine va_get (D := (dC, dI)) (ci := 4) (v := .ref ra_26) (C := RX1) (T := TX1) (N := 19) hx hb ht inX1 hown hK hP_31 0 rfl rfl 14 (by decide) (ht _ tw_535) (fun _ h9 => h9) rfl dX1_keepChoice_68 ?_
        refine va_alen hx hb hK hP_31 4 0 rfl rfl rfl dX1_keepChoice_71 ?_
        refine lv_topi (fun x_38 ex_38 => ?_)
        have ex_38 : x_38 = Int32.ofNat (2 * nv_choices) := ex_38
        refine lv_icmp_ge (tgt := 133) hx hb dX1_keepChoice_72 (by decide) (fun c_39 => ?_) (fun c_39 => ?_)
        · exact k_200133 v_choiceCount v_choices v_heights ra_26 g_26 (2 * nv_choices) ra_30 g_30 (2 * nv_heights) _ _ _ _ _ ((w_36.2 c_37 x_38 ex_38).1 c_39) hP_31 hD_31 hS_31 (lv_sub hl [] rfl) hL_26 hq1_30 hq2_30
        · refine lv_aload_n hx hb dX1_keepChoice_75 rfl (lv_at hl 0 rfl) ?_
          refine va_get (D := (dC, dI)) (ci := 4) (v := .int v_choiceCount) (C := RX1) (T := TX1) (N := 19) hx hb ht inX1 hown hK hP_31 0 rfl rfl 16 (by decide) (ht _ tw_537) (fun _ h9 => h9) rfl dX1_keepChoice_76 ?_
          refine lv_aload_n hx hb dX1_keepChoice_79 rfl (lv_at hl 0 rfl) ?_
          refine va_get (D := (dC, dI)) (ci := 4) (v := .ref ra_30) (C := RX1) (T := TX1) (N := 19) hx hb ht inX1 hown hK hP_31 0 rfl rfl 15 (by decide) (ht _ tw_536) (fun _ h9 => h9) rfl dX1_keepChoice_80 ?_
          refine va_alen hx hb hK hP_31 5 1 rfl rfl rfl dX1_keepChoice_83 ?_
          refine lv_topi (fun x_40 ex_40 => ?_)
          have ex_40 : x_40 = Int32.ofNat (2 * nv_heights) := ex_40
          have w_41 := ((w_36.2 c_37 x_38 ex_38).2 c_39) x_40 ex_40
          refine lv_icmp_ge (tgt := 133) hx hb dX1_keepChoice_84 (by decide) (fun c_42 => ?_) (fun c_42 => ?_)
          · exact k_200133 v_choiceCount v_choices v_heights ra_26 g_26 (2 * nv_choices) ra_30 g_30 (2 * nv_heights) _ _ _ _ _ (w_41.1 c_42) hP_31 hD_31 hS_31 (lv_sub hl [] rfl) hL_26 hq1_30 hq2_30
          · refine lv_aload_n hx hb dX1_keepChoice_87 rfl (lv_at hl 0 rfl) ?_
            refine va_get (D := (dC, dI)) (ci := 4) (v := .ref ra_26) (C := RX1) (T := TX1) (N := 19) hx hb ht inX1 hown hK hP_31 0 rfl rfl 14 (by decide) (ht _ tw_535) (fun _ h9 => h9) rfl dX1_keepChoice_88 ?_
            refine lv_aload_n hx hb dX1_keepChoice_91 rfl (lv_at hl 0 rfl) ?_
            refine va_get (D := (dC, dI)) (ci := 4) (v := .int v_choiceCount) (C := RX1) (T := TX1) (N := 19) hx hb ht inX1 hown hK hP_31 0 rfl rfl 16 (by decide) (ht _ tw_537) (fun _ h9 => h9) rfl dX1_keepChoice_92 ?_
            refine lv_iload_n hx hb dX1_keepChoice_95 rfl (lv_at hl 2 rfl) ?_
            refine lv_iconst (v := 4) hx hb dX1_keepChoice_96 (by decide) ?_
            refine lv_imul hx hb dX1_keepChoice_97 ?_
            refine lv_topi (fun x_43 ex_43 => ?_)
            have ex_43 : x_43 = p2 * (4 : Int32) := ex_43
            refine lv_iload_n hx hb dX1_keepChoice_98 rfl (lv_at hl 1 rfl) ?_
            refine lv_iadd hx hb dX1_keepChoice_99 ?_
            refine lv_topi (fun x_44 ex_44 => ?_)
            have ex_44 : x_44 = x_43 + p1 := ex_44
            refine lv_sipush (v := 128) hx hb dX1_keepChoice_100 (by decide) ?_
            refine lv_imul hx hb dX1_keepChoice_103 ?_
            refine lv_topi (fun x_45 ex_45 => ?_)
            have ex_45 : x_45 = x_44 * (128 : Int32) := ex_45
            refine lv_aload_n hx hb dX1_keepChoice_104 rfl (lv_at hl 0 rfl) ?_
            refine va_get (D := (dC, dI)) (ci := 4) (v := .int v_place) (C := RX1) (T := TX1) (N := 19) hx hb ht inX1 hown hK hP_31 0 rfl rfl 7 (by decide) (ht _ tw_528) (fun _ h9 => h9) rfl dX1_keepChoice_105 ?_
            refine lv_iadd hx hb dX1_keepChoice_108 ?_
            refine lv_topi (fun x_46 ex_46 => ?_)
            have ex_46 : x_46 = x_45 + v_place := ex_46
            have w_47 := w_41.2 c_42 x_43 ex_43 x_44 ex_44 x_45 ex_45 x_46 ex_46
            refine va_iast hx hb hK hP_31 hD_31 hS_31 4 0 rfl rfl (i := v_choiceCount) w_47.1 dX1_keepChoice_109 (fun H_48 locs_48 hP_48 hD_48 hS_48 => ?_)
            obtain ⟨g_48, hg_48⟩ : ∃ g : Nat → Int32, g = upd g_26 v_choiceCount.toNatClampNeg x_46 := ⟨_, rfl⟩
            have hP_48 : va_P (dC, dI) vwCl [(h0, .inr (4, oX1 v_steps (.ref h4) (.ref h5) v_wholeOnly v_start v_mode v_node v_place v_limit v_verdict (.ref h6) (.ref h7) (.ref h8) (.ref h9) (.ref ra_26) (.ref ra_30) v_choiceCount (.ref h3) v_trailCount)), (h1, .inl (k0, nv_choices, .inl v_choices)), (h2, .inl (k1, nv_heights, .inl v_heights)), (h3, .inl (k2, nv_trail, .inl v_trail)), (ra_26, .inl (k0, (2 * nv_choices), .inl g_48)), (ra_30, .inl (k1, (2 * nv_heights), .inl g_30))] H_48 := by rw [hg_48]; exact hP_48
            have hD_48 : va_D A [(h0, .inr (4, oX1 v_steps (.ref h4) (.ref h5) v_wholeOnly v_start v_mode v_node v_place v_limit v_verdict (.ref h6) (.ref h7) (.ref h8) (.ref h9) (.ref ra_26) (.ref ra_30) v_choiceCount (.ref h3) v_trailCount)), (h1, .inl (k0, nv_choices, .inl v_choices)), (h2, .inl (k1, nv_heights, .inl v_heights)), (h3, .inl (k2, nv_trail, .inl v_trail)), (ra_26, .inl (k0, (2 * nv_choices), .inl g_48)), (ra_30, .inl (k1, (2 * nv_heights), .inl g_30))] := by rw [hg_48]; exact hD_48
            refine lv_aload_n hx hb dX1_keepChoice_110 rfl (lv_at hl 0 rfl) ?_
            refine va_get (D := (dC, dI)) (ci := 4) (v := .ref ra_30) (C := RX1) (T := TX1) (N := 19) hx hb ht inX1 hown hK hP_48 0 rfl rfl 15 (by decide) (ht _ tw_536) (fun _ h9 => h9) rfl dX1_keepChoice_111 ?_
            refine lv_aload_n hx hb dX1_keepChoice_114 rfl (lv_at hl 0 rfl) ?_
            refine va_get (D := (dC, dI)) (ci := 4) (v := .int v_choiceCount) (C := RX1) (T := TX1) (N := 19) hx hb ht inX1 hown hK hP_48 0 rfl rfl 16 (by decide) (ht _ tw_537) (fun _ h9 => h9) rfl dX1_keepChoice_115 ?_
            refine lv_aload_n hx hb dX1_keepChoice_118 rfl (lv_at hl 0 rfl) ?_
            refine va_get (D := (dC, dI)) (ci := 4) (v := .int v_trailCount) (C := RX1) (T := TX1) (N := 19) hx hb ht inX1 hown hK hP_48 0 rfl rfl 18 (by decide) (ht _ tw_539) (fun _ h9 => h9) rfl dX1_keepChoice_119 ?_
            refine va_iast hx hb hK hP_48 hD_48 hS_48 5 1 rfl rfl (i := v_choiceCount) (w_47.2 g_48 hg_48).1 dX1_keepChoice_122 (fun H_49 locs_49 hP_49 hD_49 hS_49 => ?_)
            obtain ⟨g_49, hg_49⟩ : ∃ g : Nat → Int32, g = upd g_30 v_choiceCount.toNatClampNeg v_trailCount := ⟨_, rfl⟩
            have hP_49 : va_P (dC, dI) vwCl [(h0, .inr (4, oX1 v_steps (.ref h4) (.ref h5) v_wholeOnly v_start v_mode v_node v_place v_limit v_verdict (.ref h6) (.ref h7) (.ref h8) (.ref h9) (.ref ra_26) (.ref ra_30) v_choiceCount (.ref h3) v_trailCount)), (h1, .inl (k0, nv_choices, .inl v_choices)), (h2, .inl (k1, nv_heights, .inl v_heights)), (h3, .inl (k2, nv_trail, .inl v_trail)), (ra_26, .inl (k0, (2 * nv_choices), .inl g_48)), (ra_30, .inl (k1, (2 * nv_heights), .inl g_49))] H_49 := by rw [hg_49]; exact hP_49
            have hD_49 : va_D A [(h0, .inr (4, oX1 v_steps (.ref h4) (.ref h5) v_wholeOnly v_start v_mode v_node v_place v_limit v_verdict (.ref h6) (.ref h7) (.ref h8) (.ref h9) (.ref ra_26) (.ref ra_30) v_choiceCount (.ref h3) v_trailCount)), (h1, .inl (k0, nv_choices, .inl v_choices)), (h2, .inl (k1, nv_heights, .inl v_heights)), (h3, .inl (k2, nv_trail, .inl v_trail)), (ra_26, .inl (k0, (2 * nv_choices), .inl g_48)), (ra_30, .inl (k1, (2 * nv_heights), .inl g_49))] := by rw [hg_49]; exact hD_49
            refine lv_aload_n hx hb dX1_keepChoice_123 rfl (lv_at hl 0 rfl) ?_
            refine lv_dup hx hb dX1_keepChoice_124 rfl ?_
            refine va_get (D := (dC, dI)) (ci := 4) (v := .int v_choiceCount) (C := RX1) (T := TX1) (N := 19) hx hb ht inX1 hown hK hP_49 0 rfl rfl 16 (by decide) (ht _ tw_537) (fun _ h9 => h9) rfl dX1_keepChoice_125 ?_
            refine lv_iconst (v := 1) hx hb dX1_keepChoice_128 (by decide) ?_
            refine lv_iadd hx hb dX1_keepChoice_129 ?_
            refine lv_topi (fun x_50 ex_50 => ?_)
            have ex_50 : x_50 = v_choiceCount + (1 : Int32) := ex_50
            refine va_put (D := (dC, dI)) (ci := 4) (v := .int x_50) (ty := .int) (C := RX1) (T := TX1) (N := 19) hx hb ht inX1 tyX1 tyX1_ok nmX1 hown hK hP_49 hD_49 hS_49 0 rfl rfl 16 (by decide) (ht _ tw_537) (fun _ h9 => h9) rfl (by decide +kernel) rfl rfl (Nat.le_of_ble_eq_true rfl) dX1_keepChoice_130 (fun H_51 locs_51 hP_51 hD_51 hS_51 => ?_)
            have hP_51 : va_P (dC, dI) vwCl [(h0, .inr (4, oX1 v_steps (.ref h4) (.ref h5) v_wholeOnly v_start v_mode v_node v_place v_limit v_verdict (.ref h6) (.ref h7) (.ref h8) (.ref h9) (.ref ra_26) (.ref ra_30) x_50 (.ref h3) v_trailCount)), (h1, .inl (k0, nv_choices, .inl v_choices)), (h2, .inl (k1, nv_heights, .inl v_heights)), (h3, .inl (k2, nv_trail, .inl v_trail)), (ra_26, .inl (k0, (2 * nv_choices), .inl g_48)), (ra_30, .inl (k1, (2 * nv_heights), .inl g_49))] H_51 := hP_51
            have hD_51 : va_D A [(h0, .inr (4, oX1 v_steps (.ref h4) (.ref h5) v_wholeOnly v_start v_mode v_node v_place v_limit v_verdict (.ref h6) (.ref h7) (.ref h8) (.ref h9) (.ref ra_26) (.ref ra_30) x_50 (.ref h3) v_trailCount)), (h1, .inl (k0, nv_choices, .inl v_choices)), (h2, .inl (k1, nv_heights, .inl v_heights)), (h3, .inl (k2, nv_trail, .inl v_trail)), (ra_26, .inl (k0, (2 * nv_choices), .inl g_48)), (ra_30, .inl (k1, (2 * nv_heights), .inl g_49))] := hD_51
            have w_52 := (((w_47.2 g_48 hg_48).2) g_49 hg_49) x_50 ex_50
            exact k_200133 x_50 v_choices v_heights ra_26 g_48 (2 * nv_choices) ra_30 g_49 (2 * nv_heights) _ _ _ _ _ w_52 hP_51 hD_51 hS_51 (lv_sub hl [] rfl) hL_26 hq1_30 hq2_30
