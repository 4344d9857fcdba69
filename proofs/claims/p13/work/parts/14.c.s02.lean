def w_X1_setCell_13 (nv_trail : Nat) (h4 : Nat) (Q : Int32 → (Nat → Int32) → Nat → (Nat → Int32) → Nat → Prop) (v_trailCount_13 : Int32) (v_cells_13 : Nat → Int32) (v_trail_13 : Nat → Int32) : Prop :=
  Q  v_trailCount_13 v_cells_13 h4 v_trail_13 nv_trail
def w_X1_setCell_103 (p1 : Int32) (p2 : Int32) (nv_trail : Nat) (h4 : Nat) (Q : Int32 → (Nat → Int32) → Nat → (Nat → Int32) → Nat → Prop) (v_trailCount_103 : Int32) (v_cells_103 : Nat → Int32) (v_trail_103 : Nat → Int32) : Prop :=
  vp_in p1 266 ∧ ∀ g_7 : Nat → Int32, g_7 = upd v_cells_103 p1.toNatClampNeg p2 → Q  v_trailCount_103 g_7 h4 v_trail_103 nv_trail
def w_X1_setCell_54 (p1 : Int32) (p2 : Int32) (nv_trail : Nat) (h4 : Nat) (Q : Int32 → (Nat → Int32) → Nat → (Nat → Int32) → Nat → Prop) (v_trailCount_54 : Int32) (v_cells_54 : Nat → Int32) (v_trail_54 : Nat → Int32) : Prop :=
  ((v_trailCount_54 < 0) → w_X1_setCell_103 p1 p2 nv_trail h4 Q v_trailCount_54 v_cells_54 v_trail_54) ∧ ((¬ v_trailCount_54 < 0) → ∀ x_11 : Int32, x_11 = Int32.ofNat nv_trail → nv_trail ≤ 524288 → ((x_11 ≤ v_trailCount_54) → w_X1_setCell_103 p1 p2 nv_trail h4 Q v_trailCount_54 v_cells_54 v_trail_54) ∧ ((¬ x_11 ≤ v_trailCount_54) → ∀ x_14 : Int32, x_14 = p1 * (65536 : Int32) → vp_in p1 266 ∧ ∀ x_16 : Int32, x_16 = v_cells_54 p1.toNatClampNeg → ∀ x_17 : Int32, x_17 = x_14 + x_16 → vp_in v_trailCount_54 nv_trail ∧ ∀ g_18 : Nat → Int32, g_18 = upd v_trail_54 v_trailCount_54.toNatClampNeg x_17 → ∀ x_19 : Int32, x_19 = v_trailCount_54 + (1 : Int32) → w_X1_setCell_103 p1 p2 nv_trail h4 Q x_19 v_cells_54 g_18))
def w_X1_setCell_100103 (p1 : Int32) (p2 : Int32) (Q : Int32 → (Nat → Int32) → Nat → (Nat → Int32) → Nat → Prop) (v_trailCount_100103 : Int32) (v_cells_100103 : Nat → Int32) (v_trail_100103 : Nat → Int32) (hN48_100103 : Nat) (vN48_100103 : Nat → Int32) (nN48_100103 : Nat) : Prop :=
  vp_in p1 266 ∧ ∀ g_34 : Nat → Int32, g_34 = upd v_cells_100103 p1.toNatClampNeg p2 → Q  v_trailCount_100103 g_34 hN48_100103 vN48_100103 nN48_100103
def w_X1_setCell (p1 : Int32) (p2 : Int32) (v_trailCount : Int32) (v_cells : Nat → Int32) (v_trail : Nat → Int32) (nv_trail : Nat) (h4 : Nat) (Q : Int32 → (Nat → Int32) → Nat → (Nat → Int32) → Nat → Prop) : Prop :=
  ((p1 < 0) → w_X1_setCell_13 nv_trail h4 Q v_trailCount v_cells v_trail) ∧ ((¬ p1 < 0) → ((p1 < 266) → ∀ x_5 : Int32, x_5 = Int32.ofNat nv_trail → nv_trail ≤ 524288 → ((v_trailCount < x_5) → w_X1_setCell_54 p1 p2 nv_trail h4 Q v_trailCount v_cells v_trail) ∧ ((¬ v_trailCount < x_5) → ∀ x_24 : Int32, x_24 = Int32.ofNat nv_trail → nv_trail ≤ 524288 → ((262144 ≤ x_24) → w_X1_setCell_54 p1 p2 nv_trail h4 Q v_trailCount v_cells v_trail) ∧ ((¬ 262144 ≤ x_24) → ∀ x_28 : Int32, x_28 = Int32.ofNat nv_trail → nv_trail ≤ 524288 → ∀ x_30 : Int32, x_30 = x_28 * (2 : Int32) → ¬ x_30 < 0 ∧ x_30.toNatClampNeg = 2 * nv_trail ∧ nv_trail < 262144 ∧ ∀ (g_31 : Nat → Int32) (ra_31 : Nat), ((v_trailCount < 0) → w_X1_setCell_100103 p1 p2 Q v_trailCount v_cells v_trail ra_31 g_31 (2 * nv_trail)) ∧ ((¬ v_trailCount < 0) → ∀ x_39 : Int32, x_39 = Int32.ofNat (2 * nv_trail) → (2 * nv_trail) ≤ 524288 → ((x_39 ≤ v_trailCount) → w_X1_setCell_100103 p1 p2 Q v_trailCount v_cells v_trail ra_31 g_31 (2 * nv_trail)) ∧ ((¬ x_39 ≤ v_trailCount) → ∀ x_43 : Int32, x_43 = p1 * (65536 : Int32) → vp_in p1 266 ∧ ∀ x_44 : Int32, x_44 = v_cells p1.toNatClampNeg → ∀ x_45 : Int32, x_45 = x_43 + x_44 → vp_in v_trailCount (2 * nv_trail) ∧ ∀ g_47 : Nat → Int32, g_47 = upd g_31 v_trailCount.toNatClampNeg x_45 → ∀ x_48 : Int32, x_48 = v_trailCount + (1 : Int32) → w_X1_setCell_100103 p1 p2 Q x_48 v_cells v_trail ra_31 g_47 (2 * nv_trail)))))) ∧ ((¬ p1 < 266) → w_X1_setCell_13 nv_trail h4 Q v_trailCount v_cells v_trail))
set_option maxHeartbeats 4000000 in
set_option maxRecDepth 100000 in
theorem mt_X1_setCell (l : Launch) (dC : Nat → ClassId) (dI : Nat → Nat → Nat) (h0 h1 h2 h3 h4 h5 h6 h7 h8 h9 : Nat) (k0 k1 k2 k3 : ClassId) (p1 : Int32) (p2 : Int32) (v_steps : Int32) (v_wholeOnly : Bool) (v_start : Int32) (v_mode : Int32) (v_node : Int32) (v_place : Int32) (v_limit : Int32) (v_verdict : Int32) (v_choiceCount : Int32) (v_trailCount : Int32) (v_cells : Nat → Int32) (v_choices : Nat → Int32) (nv_choices : Nat) (v_heights : Nat → Int32) (nv_heights : Nat) (v_trail : Nat → Int32) (nv_trail : Nat) (Q : Int32 → (Nat → Int32) → Nat → (Nat → Int32) → Nat → Prop) (w : w_X1_setCell p1 p2 v_trailCount v_cells v_trail nv_trail h4 Q) (sz : Nat) (su qc qs : Nat) (hL : gLn nv_choices nv_heights nv_trail qc qs) : Met l yX1_setCell (WS yX1_setCell cX1_setCell 3 none) ({ frames := 2, cells := qc, slots := qs, locals := 62 } : Room) (va_Pc [.ref h0, .int p1, .int p2] (fun U => U.heap.size = sz ∧ hsum U.heap = su ∧ va_P (dC, dI) vwCl [(h0, .inr (4, oX1 v_steps (.ref h5) (.ref h6) v_wholeOnly v_start v_mode v_node v_place v_limit v_verdict (.ref h1) (.ref h7) (.ref h8) (.ref h9) (.ref h2) (.ref h3) v_choiceCount (.ref h4) v_trailCount)), (h1, .inl (k0, 266, .inl v_cells)), (h2, .inl (k1, nv_choices, .inl v_choices)), (h3, .inl (k2, nv_heights, .inl v_heights)), (h4, .inl (k3, nv_trail, .inl v_trail))] U.heap ∧ va_K (dC, dI) vwCl [(k0, .int), (k1, .int), (k2, .int), (k3, .int)] U ∧ va_D (fun _ => True) [(h0, .inr (4, oX1 v_steps (.ref h5) (.ref h6) v_wholeOnly v_start v_mode v_node v_place v_limit v_verdict (.ref h1) (.ref h7) (.ref h8) (.ref h9) (.ref h2) (.ref h3) v_choiceCount (.ref h4) v_trailCount)), (h1, .inl (k0, 266, .inl v_cells)), (h2, .inl (k1, nv_choices, .inl v_choices)), (h3, .inl (k2, nv_heights, .inl v_heights)), (h4, .inl (k3, nv_trail, .inl v_trail))])) (va_Qv (fun (u : Nat) => u = 0) (fun (_ : Nat) (t : State) => ∃ (ov_trailCount : Int32), ∃ (ov_cells : Nat → Int32), ∃ (oh4 : Nat), ∃ (ov_trail : Nat → Int32), ∃ (onv_trail : Nat), ∃ (q1 : Nat), ∃ (q2 : Nat), (Q ov_trailCount ov_cells oh4 ov_trail onv_trail) ∧ (gLn nv_choices nv_heights onv_trail q1 q2 ∧ q1 ≤ qc ∧ q2 ≤ qs ∧ t.heap.size + q1 ≤ sz + qc ∧ hsum t.heap + q2 ≤ su + qs) ∧ va_P (dC, dI) vwCl [(h0, .inr (4, oX1 v_steps (.ref h5) (.ref h6) v_wholeOnly v_start v_mode v_node v_place v_limit v_verdict (.ref h1) (.ref h7) (.ref h8) (.ref h9) (.ref h2) (.ref h3) v_choiceCount (.ref oh4) ov_trailCount)), (h1, .inl (k0, 266, .inl ov_cells)), (h2, .inl (k1, nv_choices, .inl v_choices)), (h3, .inl (k2, nv_heights, .inl v_heights)), (oh4, .inl (k3, onv_trail, .inl ov_trail))] t.heap ∧ va_D (va_A [(h0, .inr (4, oX1 v_steps (.ref h5) (.ref h6) v_wholeOnly v_start v_mode v_node v_place v_limit v_verdict (.ref h1) (.ref h7) (.ref h8) (.ref h9) (.ref h2) (.ref h3) v_choiceCount (.ref h4) v_trailCount)), (h1, .inl (k0, 266, .inl v_cells)), (h2, .inl (k1, nv_choices, .inl v_choices)), (h3, .inl (k2, nv_heights, .inl v_heights)), (h4, .inl (k3, nv_trail, .inl v_trail))] sz) [(h0, .inr (4, oX1 v_steps (.ref h5) (.ref h6) v_wholeOnly v_start v_mode v_node v_place v_limit v_verdict (.ref h1) (.ref h7) (.ref h8) (.ref h9) (.ref h2) (.ref h3) v_choiceCount (.ref oh4) ov_trailCount)), (h1, .inl (k0, 266, .inl ov_cells)), (h2, .inl (k1, nv_choices, .inl v_choices)), (h3, .inl (k2, nv_heights, .inl v_heights)), (oh4, .inl (k3, onv_trail, .inl ov_trail))]) (va_A [(h0, .inr (4, oX1 v_steps (.ref h5) (.ref h6) v_wholeOnly v_start v_mode v_node v_place v_limit v_verdict (.ref h1) (.ref h7) (.ref h8) (.ref h9) (.ref h2) (.ref h3) v_choiceCount (.ref h4) v_trailCount)), (h1, .inl (k0, 266, .inl v_cells)), (h2, .inl (k1, nv_choices, .inl v_choices)), (h3, .inl (k2, nv_heights, .inl v_heights)), (h4, .inl (k3, nv_trail, .inl v_trail))] sz)) qc qs (va_A [(h0, .inr (4, oX1 v_steps (.ref h5) (.ref h6) v_wholeOnly v_start v_mode v_node v_place v_limit v_verdict (.ref h1) (.ref h7) (.ref h8) (.ref h9) (.ref h2) (.ref h3) v_choiceCount (.ref h4) v_trailCount)), (h1, .inl (k0, 266, .inl v_cells)), (h2, .inl (k1, nv_choices, .inl v_choices)), (h3, .inl (k2, nv_heights, .inl v_heights)), (h4, .inl (k3, nv_trail, .inl v_trail))] sz) := by
  refine Met.ofW (cc := cX1_setCell) (maxL := 3) (ret := none) (by decide) rfl ?_
  intro p e s m args below meth c s₁ B hml hv
  obtain ⟨rfl, hsz, hsu, hP, hK, hD0⟩ := hv
  have hx := B.exec
  have hb := B.bytes
  have hr := B.returns
  have hts := atoms_spec (ws := WS yX1_setCell cX1_setCell 3 none) B.pre
  have ht : ∀ w ∈ TW, w.before _ s = true := fun w h => hts w (List.mem_cons_of_mem _ h)
  have hown : s.vm.findClass "PatternWorkshop$GoingBack" = some m.cls := findClass_of_methodNamed B.named
  have hlocks := B.notSynchronized
  subst hsz
  subst hsu
  have hD := hD0.self (sz := s.heap.size)
  generalize hAe : va_A [(h0, .inr (4, oX1 v_steps (.ref h5) (.ref h6) v_wholeOnly v_start v_mode v_node v_place v_limit v_verdict (.ref h1) (.ref h7) (.ref h8) (.ref h9) (.ref h2) (.ref h3) v_choiceCount (.ref h4) v_trailCount)), (h1, .inl (k0, 266, .inl v_cells)), (h2, .inl (k1, nv_choices, .inl v_choices)), (h3, .inl (k2, nv_heights, .inl v_heights)), (h4, .inl (k3, nv_trail, .inl v_trail))] s.heap.size = A at hD ⊢
  have hA : ∀ q : Nat, s.heap.size ≤ q → A q := fun q h => by rw [← hAe]; exact Or.inr h
  have hS : va_S A s.heap s.heap [] := va_S.rf
  have hP : va_P (dC, dI) vwCl [(h0, .inr (4, oX1 v_steps (.ref h5) (.ref h6) v_wholeOnly v_start v_mode v_node v_place v_limit v_verdict (.ref h1) (.ref h7) (.ref h8) (.ref h9) (.ref h2) (.ref h3) v_choiceCount (.ref h4) v_trailCount)), (h1, .inl (k0, 266, .inl v_cells)), (h2, .inl (k1, nv_choices, .inl v_choices)), (h3, .inl (k2, nv_heights, .inl v_heights)), (h4, .inl (k3, nv_trail, .inl v_trail))] s.heap := hP
  have hl := lv_entry ([.ref h0, .int p1, .int p2]) (n := 3) (Nat.le_of_ble_eq_true rfl)
  rw [lg_entry_eq]
  generalize (lg_sl ([.ref h0, .int p1, .int p2]) ++ List.replicate (3 - (lg_sl ([.ref h0, .int p1, .int p2])).length) Slot.unset).toArray = ls at hl ⊢
  have hl : lv_has ls 3 [(0, .ref h0), (1, .int p1), (2, .int p2)] := hl
  clear hD0
  obtain ⟨QQ, hQQ⟩ : ∃ QQ, QQ = MQ below (va_Qv (fun (u : Nat) => u = 0) (fun (_ : Nat) (t : State) => ∃ (ov_trailCount : Int32), ∃ (ov_cells : Nat → Int32), ∃ (oh4 : Nat), ∃ (ov_trail : Nat → Int32), ∃ (onv_trail : Nat), ∃ (q1 : Nat), ∃ (q2 : Nat), (Q ov_trailCount ov_cells oh4 ov_trail onv_trail) ∧ (gLn nv_choices nv_heights onv_trail q1 q2 ∧ q1 ≤ qc ∧ q2 ≤ qs ∧ t.heap.size + q1 ≤ s.heap.size + qc ∧ hsum t.heap + q2 ≤ hsum s.heap + qs) ∧ va_P (dC, dI) vwCl [(h0, .inr (4, oX1 v_steps (.ref h5) (.ref h6) v_wholeOnly v_start v_mode v_node v_place v_limit v_verdict (.ref h1) (.ref h7) (.ref h8) (.ref h9) (.ref h2) (.ref h3) v_choiceCount (.ref oh4) ov_trailCount)), (h1, .inl (k0, 266, .inl ov_cells)), (h2, .inl (k1, nv_choices, .inl v_choices)), (h3, .inl (k2, nv_heights, .inl v_heights)), (oh4, .inl (k3, onv_trail, .inl ov_trail))] t.heap ∧ va_D A [(h0, .inr (4, oX1 v_steps (.ref h5) (.ref h6) v_wholeOnly v_start v_mode v_node v_place v_limit v_verdict (.ref h1) (.ref h7) (.ref h8) (.ref h9) (.ref h2) (.ref h3) v_choiceCount (.ref oh4) ov_trailCount)), (h1, .inl (k0, 266, .inl ov_cells)), (h2, .inl (k1, nv_choices, .inl v_choices)), (h3, .inl (k2, nv_heights, .inl v_heights)), (oh4, .inl (k3, onv_trail, .inl ov_trail))]) A) ([.ref h0, .int p1, .int p2]).toArray s qc qs A := ⟨_, rfl⟩
  show W p l e ({ frames := 2, cells := qc, slots := qs, locals := 62 } : Room) s m ([.ref h0, .int p1, .int p2]).toArray below meth c s.heap [] 0 0 (MQ below (va_Qv (fun (u : Nat) => u = 0) (fun (_ : Nat) (t : State) => ∃ (ov_trailCount : Int32), ∃ (ov_cells : Nat → Int32), ∃ (oh4 : Nat), ∃ (ov_trail : Nat → Int32), ∃ (onv_trail : Nat), ∃ (q1 : Nat), ∃ (q2 : Nat), (Q ov_trailCount ov_cells oh4 ov_trail onv_trail) ∧ (gLn nv_choices nv_heights onv_trail q1 q2 ∧ q1 ≤ qc ∧ q2 ≤ qs ∧ t.heap.size + q1 ≤ s.heap.size + qc ∧ hsum t.heap + q2 ≤ hsum s.heap + qs) ∧ va_P (dC, dI) vwCl [(h0, .inr (4, oX1 v_steps (.ref h5) (.ref h6) v_wholeOnly v_start v_mode v_node v_place v_limit v_verdict (.ref h1) (.ref h7) (.ref h8) (.ref h9) (.ref h2) (.ref h3) v_choiceCount (.ref oh4) ov_trailCount)), (h1, .inl (k0, 266, .inl ov_cells)), (h2, .inl (k1, nv_choices, .inl v_choices)), (h3, .inl (k2, nv_heights, .inl v_heights)), (oh4, .inl (k3, onv_trail, .inl ov_trail))] t.heap ∧ va_D A [(h0, .inr (4, oX1 v_steps (.ref h5) (.ref h6) v_wholeOnly v_start v_mode v_node v_place v_limit v_verdict (.ref h1) (.ref h7) (.ref h8) (.ref h9) (.ref h2) (.ref h3) v_choiceCount (.ref oh4) ov_trailCount)), (h1, .inl (k0, 266, .inl ov_cells)), (h2, .inl (k1, nv_choices, .inl v_choices)), (h3, .inl (k2, nv_heights, .inl v_heights)), (oh4, .inl (k3, onv_trail, .inl ov_trail))]) A) ([.ref h0, .int p1, .int p2]).toArray s qc qs A) (F0 m 0 ls [])
  rw [← hQQ]
  refine W_0 (qc := qc) (qs := qs) ?_
  have hq1 : qc ≤ qc := Nat.le_refl _
  have hq2 : qs ≤ qs := Nat.le_refl _
  unfold w_X1_setCell at w
  refine lv_iload_n hx hb dX1_setCell_0 rfl (lv_at hl 1 rfl) ?_
  have k_13 : ∀ (v_trailCount_13 : Int32) (v_cells_13 : Nat → Int32) (v_trail_13 : Nat → Int32), ∀ (H_b13 : Heap) (locs_b13 : List Loc) (ls_b13 : Array Slot) (q1_b13 q2_b13 : Nat), w_X1_setCell_13 nv_trail h4 Q v_trailCount_13 v_cells_13 v_trail_13 → va_P (dC, dI) vwCl [(h0, .inr (4, oX1 v_steps (.ref h5) (.ref h6) v_wholeOnly v_start v_mode v_node v_place v_limit v_verdict (.ref h1) (.ref h7) (.ref h8) (.ref h9) (.ref h2) (.ref h3) v_choiceCount (.ref h4) v_trailCount_13)), (h1, .inl (k0, 266, .inl v_cells_13)), (h2, .inl (k1, nv_choices, .inl v_choices)), (h3, .inl (k2, nv_heights, .inl v_heights)), (h4, .inl (k3, nv_trail, .inl v_trail_13))] H_b13 → va_D A [(h0, .inr (4, oX1 v_steps (.ref h5) (.ref h6) v_wholeOnly v_start v_mode v_node v_place v_limit v_verdict (.ref h1) (.ref h7) (.ref h8) (.ref h9) (.ref h2) (.ref h3) v_choiceCount (.ref h4) v_trailCount_13)), (h1, .inl (k0, 266, .inl v_cells_13)), (h2, .inl (k1, nv_choices, .inl v_choices)), (h3, .inl (k2, nv_heights, .inl v_heights)), (h4, .inl (k3, nv_trail, .inl v_trail_13))] → va_S A s.heap H_b13 locs_b13 → lv_has ls_b13 3 [] → gLn nv_choices nv_heights nv_trail q1_b13 q2_b13 → q1_b13 ≤ qc → q2_b13 ≤ qs → W p l e ({ frames := 2, cells := qc, slots := qs, locals := 62 } : Room) s m ([.ref h0, .int p1, .int p2]).toArray below meth c H_b13 locs_b13 (qc - q1_b13) (qs - q2_b13) QQ (F0 m 13 ls_b13 []) := by
    intro v_trailCount_13 v_cells_13 v_trail_13 H_b13 locs_b13 ls_b13 q1_b13 q2_b13 w_b13 hP_b13 hD_b13 hS_b13 hl_b13 hL_b13 hq1_b13 hq2_b13
    unfold w_X1_setCell_13 at w_b13
    have hP_1 := hP_b13.sub (ws' := [(h0, .inr (4, oX1 v_steps (.ref h5) (.ref h6) v_wholeOnly v_start v_mode v_node v_place v_limit v_verdict (.ref h1) (.ref h7) (.ref h8) (.ref h9) (.ref h2) (.ref h3) v_choiceCount (.ref h4) v_trailCount_13)), (h1, .inl (k0, 266, .inl v_cells_13)), (h2, .inl (k1, nv_choices, .inl v_choices)), (h3, .inl (k2, nv_heights, .inl v_heights)), (h4, .inl (k3, nv_trail, .inl v_trail_13))]) [0, 1, 2, 3, 4] rfl
    have hD_1 := hD_b13.sub (ws' := [(h0, .inr (4, oX1 v_steps (.ref h5) (.ref h6) v_wholeOnly v_start v_mode v_node v_place v_limit v_verdict (.ref h1) (.ref h7) (.ref h8) (.ref h9) (.ref h2) (.ref h3) v_choiceCount (.ref h4) v_trailCount_13)), (h1, .inl (k0, 266, .inl v_cells_13)), (h2, .inl (k1, nv_choices, .inl v_choices)), (h3, .inl (k2, nv_heights, .inl v_heights)), (h4, .inl (k3, nv_trail, .inl v_trail_13))]) [0, 1, 2, 3, 4] (by decide) rfl
    refine W_gain (fun ga_2 gb_2 gc_2 gd_2 => ?_)
    refine W.widen (k := qc) (n := qs) (by omega) (by omega) ?_
    rw [hQQ]
    exact W.vret hx hb hr (fun t9 ht9 hW9 => ⟨⟨0, rfl, rfl, ⟨v_trailCount_13, v_cells_13, h4, v_trail_13, nv_trail, q1_b13, q2_b13, w_b13, ⟨hL_b13, hq1_b13, hq2_b13, by rw [ht9]; omega, by rw [ht9]; omega⟩, by rw [ht9]; exact hP_1, hD_1⟩⟩, hS_b13.F ht9⟩) hS_b13.2.2 dX1_setCell_13
  refine lv_if_lt (tgt := 13) hx hb dX1_setCell_1 (by decide) (fun c_3 => ?_) (fun c_3 => ?_)
  · exact k_13 v_trailCount v_cells v_trail _ _ _ _ _ (w.1 c_3) hP hD hS (lv_sub hl [] rfl) hL hq1 hq2
  · refine lv_iload_n hx hb dX1_setCell_4 rfl (lv_at hl 1 rfl) ?_
    refine lv_aload_n hx hb dX1_setCell_5 rfl (lv_at hl 0 rfl) ?_
    refine va_get (D := (dC, dI)) (ci := 4) (v := .ref h1) (C := RX1) (T := TX1) (N := 19) hx hb ht inX1 hown hK hP 0 rfl rfl 10 (by decide) (ht _ tw_531) (fun _ h9 => h9) rfl dX1_setCell_6 ?_
    refine va_alen hx hb hK hP 1 0 rfl rfl (v := 266) (show Int32.ofNat 266 = 266 by decide) dX1_setCell_9 ?_
    refine lv_icmp_lt (tgt := 14) hx hb dX1_setCell_10 (by decide) (fun c_4 => ?_) (fun c_4 => ?_)
    · refine lv_aload_n hx hb dX1_setCell_14 rfl (lv_at hl 0 rfl) ?_
      refine va_get (D := (dC, dI)) (ci := 4) (v := .int v_trailCount) (C := RX1) (T := TX1) (N := 19) hx hb ht inX1 hown hK hP 0 rfl rfl 18 (by decide) (ht _ tw_539) (fun _ h9 => h9) rfl dX1_setCell_15 ?_
      refine lv_aload_n hx hb dX1_setCell_18 rfl (lv_at hl 0 rfl) ?_
      refine va_get (D := (dC, dI)) (ci := 4) (v := .ref h4) (C := RX1) (T := TX1) (N := 19) hx hb ht inX1 hown hK hP 0 rfl rfl 17 (by decide) (ht _ tw_538) (fun _ h9 => h9) rfl dX1_setCell_19 ?_
      refine va_alen hx hb hK hP 4 3 rfl rfl rfl dX1_setCell_22 ?_
      refine lv_topi (fun x_5 ex_5 => ?_)
      have ex_5 : x_5 = Int32.ofNat nv_trail := ex_5
      have hn_6 : nv_trail ≤ 524288 := by have h9 := gLn_b hL; omega
      have k_54 : ∀ (v_trailCount_54 : Int32) (v_cells_54 : Nat → Int32) (v_trail_54 : Nat → Int32), ∀ (H_b54 : Heap) (locs_b54 : List Loc) (ls_b54 : Array Slot) (q1_b54 q2_b54 : Nat), w_X1_setCell_54 p1 p2 nv_trail h4 Q v_trailCount_54 v_cells_54 v_trail_54 → va_P (dC, dI) vwCl [(h0, .inr (4, oX1 v_steps (.ref h5) (.ref h6) v_wholeOnly v_start v_mode v_node v_place v_limit v_verdict (.ref h1) (.ref h7) (.ref h8) (.ref h9) (.ref h2) (.ref h3) v_choiceCount (.ref h4) v_trailCount_54)), (h1, .inl (k0, 266, .inl v_cells_54)), (h2, .inl (k1, nv_choices, .inl v_choices)), (h3, .inl (k2, nv_heights, .inl v_heights)), (h4, .inl (k3, nv_trail, .inl v_trail_54))] H_b54 → va_D A [(h0, .inr (4, oX1 v_steps (.ref h5) (.ref h6) v_wholeOnly v_start v_mode v_node v_place v_limit v_verdict (.ref h1) (.ref h7) (.ref h8) (.ref h9) (.ref h2) (.ref h3) v_choiceCount (.ref h4) v_trailCount_54)), (h1, .inl (k0, 266, .inl v_cells_54)), (h2, .inl (k1, nv_choices, .inl v_choices)), (h3, .inl (k2, nv_heights, .inl v_heights)), (h4, .inl (k3, nv_trail, .inl v_trail_54))] → va_S A s.heap H_b54 locs_b54 → lv_has ls_b54 3 [(0, .ref h0), (1, .int p1), (2, .int p2)] → gLn nv_choices nv_heights nv_trail q1_b54 q2_b54 → q1_b54 ≤ qc → q2_b54 ≤ qs → W p l e ({ frames := 2, cells := qc, slots := qs, locals := 62 } : Room) s m ([.ref h0, .int p1, .int p2]).toArray below meth c H_b54 locs_b54 (qc - q1_b54) (qs - q2_b54) QQ (F0 m 54 ls_b54 []) := by
        intro v_trailCount_54 v_cells_54 v_trail_54 H_b54 locs_b54 ls_b54 q1_b54 q2_b54 w_b54 hP_b54 hD_b54 hS_b54 hl_b54 hL_b54 hq1_b54 hq2_b54
        unfold w_X1_setCell_54 at w_b54
        refine lv_aload_n hx hb dX1_setCell_54 rfl (lv_at hl_b54 0 rfl) ?_
        refine va_get (D := (dC, dI)) (ci := 4) (v := .int v_trailCount_54) (C := RX1) (T := TX1) (N := 19) hx hb ht inX1 hown hK hP_b54 0 rfl rfl 18 (by decide) (ht _ tw_539) (fun _ h9 => h9) rfl dX1_setCell_55 ?_
        have k_103 : ∀ (v_trailCount_103 : Int32) (v_cells_103 : Nat → Int32) (v_trail_103 : Nat → Int32), ∀ (H_b103 : Heap) (locs_b103 : List Loc) (ls_b103 : Array Slot) (q1_b103 q2_b103 : Nat), w_X1_setCell_103 p1 p2 nv_trail h4 Q v_trailCount_103 v_cells_103 v_trail_103 → va_P (dC, dI) vwCl [(h0, .inr (4, oX1 v_steps (.ref h5) (.ref h6) v_wholeOnly v_start v_mode v_node v_place v_limit v_verdict (.ref h1) (.ref h7) (.ref h8) (.ref h9) (.ref h2) (.ref h3) v_choiceCount (.ref h4) v_trailCount_103)), (h1, .inl (k0, 266, .inl v_cells_103)), (h2, .inl (k1, nv_choices, .inl v_choices)), (h3, .inl (k2, nv_heights, .inl v_heights)), (h4, .inl (k3, nv_trail, .inl v_trail_103))] H_b103 → va_D A [(h0, .inr (4, oX1 v_steps (.ref h5) (.ref h6) v_wholeOnly v_start v_mode v_node v_place v_limit v_verdict (.ref h1) (.ref h7) (.ref h8) (.ref h9) (.ref h2) (.ref h3) v_choiceCount (.ref h4) v_trailCount_103)), (h1, .inl (k0, 266, .inl v_cells_103)), (h2, .inl (k1, nv_choices, .inl v_choices)), (h3, .inl (k2, nv_heights, .inl v_heights)), (h4, .inl (k3, nv_trail, .inl v_trail_103))] → va_S A s.heap H_b103 locs_b103 → lv_has ls_b103 3 [(0, .ref h0), (1, .int p1), (2, .int p2)] → gLn nv_choices nv_heights nv_trail q1_b103 q2_b103 → q1_b103 ≤ qc → q2_b103 ≤ qs → W p l e ({ frames := 2, cells := qc, slots := qs, locals := 62 } : Room) s m ([.ref h0, .int p1, .int p2]).toArray below meth c H_b103 locs_b103 (qc - q1_b103) (qs - q2_b103) QQ (F0 m 103 ls_b103 []) := by
          intro v_trailCount_103 v_cells_103 v_trail_103 H_b103 locs_b103 ls_b103 q1_b103 q2_b103 w_b103 hP_b103 hD_b103 hS_b103 hl_b103 hL_b103 hq1_b103 hq2_b103
          unfold w_X1_setCell_103 at w_b103
          refine lv_aload_n hx hb dX1_setCell_103 rfl (lv_at hl_b103 0 rfl) ?_
          refine va_get (D := (dC, dI)) (ci := 4) (v := .ref h1) (C := RX1) (T := TX1) (N := 19) hx hb ht inX1 hown hK hP_b103 0 rfl rfl 10 (by decide) (ht _ tw_531) (fun _ h9 => h9) rfl dX1_setCell_104 ?_
          refine lv_iload_n hx hb dX1_setCell_107 rfl (lv_at hl_b103 1 rfl) ?_
          refine lv_iload_n hx hb dX1_setCell_108 rfl (lv_at hl_b103 2 rfl) ?_
          refine va_iast hx hb hK hP_b103 hD_b103 hS_b103 1 0 rfl rfl (i := p1) w_b103.1 dX1_setCell_109 (fun H_7 locs_7 hP_7 hD_7 hS_7 => ?_)
          obtain ⟨g_7, hg_7⟩ : ∃ g : Nat → Int32, g = upd v_cells_103 p1.toNatClampNeg p2 := ⟨_, rfl⟩
          have hP_7 : va_P (dC, dI) vwCl [(h0, .inr (4, oX1 v_steps (.ref h5) (.ref h6) v_wholeOnly v_start v_mode v_node v_place v_limit v_verdict (.ref h1) (.ref h7) (.ref h8) (.ref h9) (.ref h2) (.ref h3) v_choiceCount (.ref h4) v_trailCount_103)), (h1, .inl (k0, 266, .inl g_7)), (h2, .inl (k1, nv_choices, .inl v_choices)), (h3, .inl (k2, nv_heights, .inl v_heights)), (h4, .inl (k3, nv_trail, .inl v_trail_103))] H_7 := by rw [hg_7]; exact hP_7
          have hD_7 : va_D A [(h0, .inr (4, oX1 v_steps (.ref h5) (.ref h6) v_wholeOnly v_start v_mode v_node v_place v_limit v_verdict (.ref h1) (.ref h7) (.ref h8) (.ref h9) (.ref h2) (.ref h3) v_choiceCount (.ref h4) v_trailCount_103)), (h1, .inl (k0, 266, .inl g_7)), (h2, .inl (k1, nv_choices, .inl v_choices)), (h3, .inl (k2, nv_heights, .inl v_heights)), (h4, .inl (k3, nv_trail, .inl v_trail_103))] := by rw [hg_7]; exact hD_7
          have hP_8 := hP_7.sub (ws' := [(h0, .inr (4, oX1 v_steps (.ref h5) (.ref h6) v_wholeOnly v_start v_mode v_node v_place v_limit v_verdict (.ref h1) (.ref h7) (.ref h8) (.ref h9) (.ref h2) (.ref h3) v_choiceCount (.ref h4) v_trailCount_103)), (h1, .inl (k0, 266, .inl g_7)), (h2, .inl (k1, nv_choices, .inl v_choices)), (h3, .inl (k2, nv_heights, .inl v_heights)), (h4, .inl (k3, nv_trail, .inl v_trail_103))]) [0, 1, 2, 3, 4] rfl
          have hD_8 := hD_7.sub (ws' := [(h0, .inr (4, oX1 v_steps (.ref h5) (.ref h6) v_wholeOnly v_start v_mode v_node v_place v_limit v_verdict (.ref h1) (.ref h7) (.ref h8) (.ref h9) (.ref h2) (.ref h3) v_choiceCount (.ref h4) v_trailCount_103)), (h1, .inl (k0, 266, .inl g_7)), (h2, .inl (k1, nv_choices, .inl v_choices)), (h3, .inl (k2, nv_heights, .inl v_heights)), (h4, .inl (k3, nv_trail, .inl v_trail_103))]) [0, 1, 2, 3, 4] (by decide) rfl
          refine W_gain (fun ga_9 gb_9 gc_9 gd_9 => ?_)
          refine W.widen (k := qc) (n := qs) (by omega) (by omega) ?_
          rw [hQQ]
          exact W.vret hx hb hr (fun t9 ht9 hW9 => ⟨⟨0, rfl, rfl, ⟨v_trailCount_103, g_7, h4, v_trail_103, nv_trail, q1_b103, q2_b103, w_b103.2 g_7 hg_7, ⟨hL_b103, hq1_b103, hq2_b103, by rw [ht9]; omega, by rw [ht9]; omega⟩, by rw [ht9]; exact hP_8, hD_8⟩⟩, hS_7.F ht9⟩) hS_7.2.2 dX1_setCell_110
        refine lv_if_lt (tgt := 103) hx hb dX1_setCell_58 (by decide) (fun c_10 => ?_) (fun c_10 => ?_)
        · exact k_103 v_trailCount_54 v_cells_54 v_trail_54 _ _ _ _ _ (w_b54.1 c_10) hP_b54 hD_b54 hS_b54 (lv_sub hl_b54 [0, 1, 2] rfl) hL_b54 hq1_b54 hq2_b54
        · refine lv_aload_n hx hb dX1_setCell_61 rfl (lv_at hl_b54 0 rfl) ?_
          refine va_get (D := (dC, dI)) (ci := 4) (v := .int v_trailCount_54) (C := RX1) (T := TX1) (N := 19) hx hb ht inX1 hown hK hP_b54 0 rfl rfl 18 (by decide) (ht _ tw_539) (fun _ h9 => h9) rfl dX1_setCell_62 ?_
          refine lv_aload_n hx hb dX1_setCell_65 rfl (lv_at hl_b54 0 rfl) ?_
          refine va_get (D := (dC, dI)) (ci := 4) (v := .ref h4) (C := RX1) (T := TX1) (N := 19) hx hb ht inX1 hown hK hP_b54 0 rfl rfl 17 (by decide) (ht _ tw_538) (fun _ h9 => h9) rfl dX1_setCell_66 ?_
          refine va_alen hx hb hK hP_b54 4 3 rfl rfl rfl dX1_setCell_69 ?_
          refine lv_topi (fun x_11 ex_11 => ?_)
          have ex_11 : x_11 = Int32.ofNat nv_trail := ex_11
          have hn_12 : nv_trail ≤ 524288 := by have h9 := gLn_b hL_b54; omega
          refine lv_icmp_ge (tgt := 103) hx hb dX1_setCell_70 (by decide) (fun c_13 => ?_) (fun c_13 => ?_)
          · exact k_103 v_trailCount_54 v_cells_54 v_trail_54 _ _ _ _ _ ((w_b54.2 c_10 x_11 ex_11 hn_12).1 c_13) hP_b54 hD_b54 hS_b54 (lv_sub hl_b54 [0, 1, 2] rfl) hL_b54 hq1_b54 hq2_b54
          · refine lv_aload_n hx hb dX1_setCell_73 rfl (lv_at hl_b54 0 rfl) ?_
            refine va_get (D := (dC, dI)) (ci := 4) (v := .ref h4) (C := RX1) (T := TX1) (N := 19) hx hb ht inX1 hown hK hP_b54 0 rfl rfl 17 (by decide) (ht _ tw_538) (fun _ h9 => h9) rfl dX1_setCell_74 ?_
            refine lv_aload_n hx hb dX1_setCell_77 rfl (lv_at hl_b54 0 rfl) ?_
            refine va_get (D := (dC, dI)) (ci := 4) (v := .int v_trailCount_54) (C := RX1) (T := TX1) (N := 19) hx hb ht inX1 hown hK hP_b54 0 rfl rfl 18 (by decide) (ht _ tw_539) (fun _ h9 => h9) rfl dX1_setCell_78 ?_
            refine lv_iload_n hx hb dX1_setCell_81 rfl (lv_at hl_b54 1 rfl) ?_
            refine lv_ldc hx hb hown (ht _ tw_1669) dX1_setCell_82 ?_
            refine lv_imul hx hb dX1_setCell_84 ?_
            refine lv_topi (fun x_14 ex_14 => ?_)
            have ex_14 : x_14 = p1 * (65536 : Int32) := ex_14
            refine lv_aload_n hx hb dX1_setCell_85 rfl (lv_at hl_b54 0 rfl) ?_
            refine va_get (D := (dC, dI)) (ci := 4) (v := .ref h1) (C := RX1) (T := TX1) (N := 19) hx hb ht inX1 hown hK hP_b54 0 rfl rfl 10 (by decide) (ht _ tw_531) (fun _ h9 => h9) rfl dX1_setCell_86 ?_
            refine lv_iload_n hx hb dX1_setCell_89 rfl (lv_at hl_b54 1 rfl) ?_
            have w_15 := ((w_b54.2 c_10 x_11 ex_11 hn_12).2 c_13) x_14 ex_14
            refine va_iald hx hb hK hP_b54 1 0 rfl rfl (i := p1) w_15.1 dX1_setCell_90 ?_
            refine lv_topi (fun x_16 ex_16 => ?_)
            have ex_16 : x_16 = v_cells_54 p1.toNatClampNeg := ex_16
            refine lv_iadd hx hb dX1_setCell_91 ?_
            refine lv_topi (fun x_17 ex_17 => ?_)
            have ex_17 : x_17 = x_14 + x_16 := ex_17
            refine va_iast hx hb hK hP_b54 hD_b54 hS_b54 4 3 rfl rfl (i := v_trailCount_54) (w_15.2 x_16 ex_16 x_17 ex_17).1 dX1_setCell_92 (fun H_18 locs_18 hP_18 hD_18 hS_18 => ?_)
            obtain ⟨g_18, hg_18⟩ : ∃ g : Nat → Int32, g = upd v_trail_54 v_trailCount_54.toNatClampNeg x_17 := ⟨_, rfl⟩
            have hP_18 : va_P (dC, dI) vwCl [(h0, .inr (4, oX1 v_steps (.ref h5) (.ref h6) v_wholeOnly v_start v_mode v_node v_place v_limit v_verdict (.ref h1) (.ref h7) (.ref h8) (.ref h9) (.ref h2) (.ref h3) v_choiceCount (.ref h4) v_trailCount_54)), (h1, .inl (k0, 266, .inl v_cells_54)), (h2, .inl (k1, nv_choices, .inl v_choices)), (h3, .inl (k2, nv_heights, .inl v_heights)), (h4, .inl (k3, nv_trail, .inl g_18))] H_18 := by rw [hg_18]; exact hP_18
            have hD_18 : va_D A [(h0, .inr (4, oX1 v_steps (.ref h5) (.ref h6) v_wholeOnly v_start v_mode v_node v_place v_limit v_verdict (.ref h1) (.ref h7) (.ref h8) (.ref h9) (.ref h2) (.ref h3) v_choiceCount (.ref h4) v_trailCount_54)), (h1, .inl (k0, 266, .inl v_cells_54)), (h2, .inl (k1, nv_choices, .inl v_choices)), (h3, .inl (k2, nv_heights, .inl v_heights)), (h4, .inl (k3, nv_trail, .inl g_18))] := by rw [hg_18]; exact hD_18
            refine lv_aload_n hx hb dX1_setCell_93 rfl (lv_at hl_b54 0 rfl) ?_
            refine lv_dup hx hb dX1_setCell_94 rfl ?_
            refine va_get (D := (dC, dI)) (ci := 4) (v := .int v_trailCount_54) (C := RX1) (T := TX1) (N := 19) hx hb ht inX1 hown hK hP_18 0 rfl rfl 18 (by decide) (ht _ tw_539) (fun _ h9 => h9) rfl dX1_setCell_95 ?_
            refine lv_iconst (v := 1) hx hb dX1_setCell_98 (by decide) ?_
            refine lv_iadd hx hb dX1_setCell_99 ?_
            refine lv_topi (fun x_19 ex_19 => ?_)
            have ex_19 : x_19 = v_trailCount_54 + (1 : Int32) := ex_19
            refine va_put (D := (dC, dI)) (ci := 4) (v := .int x_19) (ty := .int) (C := RX1) (T := TX1) (N := 19) hx hb ht inX1 tyX1 tyX1_ok nmX1 hown hK hP_18 hD_18 hS_18 0 rfl rfl 18 (by decide) (ht _ tw_539) (fun _ h9 => h9) rfl (by decide +kernel) rfl rfl (Nat.le_of_ble_eq_true rfl) dX1_setCell_100 (fun H_20 locs_20 hP_20 hD_20 hS_20 => ?_)
            have hP_20 : va_P (dC, dI) vwCl [(h0, .inr (4, oX1 v_steps (.ref h5) (.ref h6) v_wholeOnly v_start v_mode v_node v_place v_limit v_verdict (.ref h1) (.ref h7) (.ref h8) (.ref h9) (.ref h2) (.ref h3) v_choiceCount (.ref h4) x_19)), (h1, .inl (k0, 266, .inl v_cells_54)), (h2, .inl (k1, nv_choices, .inl v_choices)), (h3, .inl (k2, nv_heights, .inl v_heights)), (h4, .inl (k3, nv_trail, .inl g_18))] H_20 := hP_20
            have hD_20 : va_D A [(h0, .inr (4, oX1 v_steps (.ref h5) (.ref h6) v_wholeOnly v_start v_mode v_node v_place v_limit v_verdict (.ref h1) (.ref h7) (.ref h8) (.ref h9) (.ref h2) (.ref h3) v_choiceCount (.ref h4) x_19)), (h1, .inl (k0, 266, .inl v_cells_54)), (h2, .inl (k1, nv_choices, .inl v_choices)), (h3, .inl (k2, nv_heights, .inl v_heights)), (h4, .inl (k3, nv_trail, .inl g_18))] := hD_20
            have w_21 := (((w_15.2 x_16 ex_16 x_17 ex_17).2) g_18 hg_18) x_19 ex_19
            exact k_103 x_19 v_cells_54 g_18 _ _ _ _ _ w_21 hP_20 hD_20 hS_20 (lv_sub hl_b54 [0, 1, 2] rfl) hL_b54 hq1_b54 hq2_b54
      refine lv_icmp_lt (tgt := 54) hx hb dX1_setCell_23 (by decide) (fun c_22 => ?_) (fun c_22 => ?_)
      · have w_23 := ((((w.2 c_3).1 c_4) x_5 ex_5) hn_6).1 c_22
        exact k_54 v_trailCount v_cells v_trail _ _ _ _ _ w_23 hP hD hS (lv_sub hl [0, 1, 2] rfl) hL hq1 hq2
      · refine lv_aload_n hx hb dX1_setCell_26 rfl (lv_at hl 0 rfl) ?_
        refine va_get (D := (dC, dI)) (ci := 4) (v := .ref h4) (C := RX1) (T := TX1) (N := 19) hx hb ht inX1 hown hK hP 0 rfl rfl 17 (by decide) (ht _ tw_538) (fun _ h9 => h9) rfl dX1_setCell_27 ?_
        refine va_alen hx hb hK hP 4 3 rfl rfl rfl dX1_setCell_30 ?_
        refine lv_topi (fun x_24 ex_24 => ?_)
        have ex_24 : x_24 = Int32.ofNat nv_trail := ex_24
        have hn_25 : nv_trail ≤ 524288 := by have h9 := gLn_b hL; omega
        refine lv_ldc hx hb hown (ht _ tw_1644) dX1_setCell_31 ?_
        have w_26 := ((((((w.2 c_3).1 c_4) x_5 ex_5) hn_6).2 c_22) x_24 ex_24) hn_25
        refine lv_icmp_ge (tgt := 54) hx hb dX1_setCell_33 (by decide) (fun c_27 => ?_) (fun c_27 => ?_)
        · exact k_54 v_trailCount v_cells v_trail _ _ _ _ _ (w_26.1 c_27) hP hD hS (lv_sub hl [0, 1, 2] rfl) hL hq1 hq2
        · refine lv_aload_n hx hb dX1_setCell_36 rfl (lv_at hl 0 rfl) ?_
          refine lv_aload_n hx hb dX1_setCell_37 rfl (lv_at hl 0 rfl) ?_
          refine va_get (D := (dC, dI)) (ci := 4) (v := .ref h4) (C := RX1) (T := TX1) (N := 19) hx hb ht inX1 hown hK hP 0 rfl rfl 17 (by decide) (ht _ tw_538) (fun _ h9 => h9) rfl dX1_setCell_38 ?_
          refine lv_aload_n hx hb dX1_setCell_41 rfl (lv_at hl 0 rfl) ?_
          refine va_get (D := (dC, dI)) (ci := 4) (v := .ref h4) (C := RX1) (T := TX1) (N := 19) hx hb ht inX1 hown hK hP 0 rfl rfl 17 (by decide) (ht _ tw_538) (fun _ h9 => h9) rfl dX1_setCell_42 ?_
          refine va_alen hx hb hK hP 4 3 rfl rfl rfl dX1_setCell_45 ?_
          refine lv_topi (fun x_28 ex_28 => ?_)
          have ex_28 : x_28 = Int32.ofNat nv_trail := ex_28
          have hn_29 : nv_trail ≤ 524288 := by have h9 := gLn_b hL; omega
          refine lv_iconst (v := 2) hx hb dX1_setCell_46 (by decide) ?_
          refine lv_imul hx hb dX1_setCell_47 ?_
          refine lv_topi (fun x_30 ex_30 => ?_)
          have ex_30 : x_30 = x_28 * (2 : Int32) := ex_30
          have w_32 := (w_26.2 c_27 x_28 ex_28 hn_29 x_30 ex_30).2
          obtain ⟨hL_31, hc_31, hs_31⟩ := gLn_t hL w_32.2.1
          have hb_31 := gLn_b hL
          have hcp_31 := cpy_ok (n := nv_trail) (N := 2 * nv_trail) w_32.1 (w_26.2 c_27 x_28 ex_28 hn_29 x_30 ex_30).1 (by omega) (by omega)
          have hPc_31 := hP.sub (ws' := [(h4, .inl (k3, nv_trail, .inl v_trail))]) [4] rfl
          have hDc_31 := hD.sub (ws' := [(h4, .inl (k3, nv_trail, .inl v_trail))]) [4] (by decide) rfl
          have hKc_31 := hK.sub (tys' := [(k3, .int)]) [3] rfl
          have hFc_31 := va_free (wc := [(h4, .inl (k3, nv_trail, .inl v_trail))]) hD hS hA [4] rfl
          refine va_callr (va_runS (As := [.ref h4, .int x_30]) (rest := [.ref h0]) ⟨hx, hb, hml, hown, ht⟩ (mt_copyOf l dC dI h4 k3 x_30 nv_trail (2 * nv_trail) v_trail hcp_31.1 (w_26.2 c_27 x_28 ex_28 hn_29 x_30 ex_30).1 w_32.1 (by omega) hcp_31.2.1 hcp_31.2.2.1 hcp_31.2.2.2 s.heap.size) (va_cwS 2 ht (goodSS tw_1645 tw_1646 tw_250 gw_J7_copyOf_59c91) rfl rfl rfl (by decide +kernel) ⟨Nat.le_of_ble_eq_true rfl, Nat.le_of_ble_eq_true rfl⟩) ⟨fun a U g mk q => by obtain ⟨q0, q1, qP, qK, qD⟩ := q; exact ⟨q0, q1, qP, va_K.moved (u := U) (U := U.calling g mk a) (Vm.Alike.refl U.vm) qK, qD⟩, fun U hU hW => ⟨rfl, by rw [hU], by rw [hU]; exact hPc_31, va_K.moved hW.alike hKc_31, hDc_31.weaken (fun _ _ _ _ => trivial)⟩⟩ rfl rfl hl.1 rfl (lv_room (Nat.le_of_ble_eq_true rfl)) dX1_setCell_48 ⟨by dsimp only; omega, by dsimp only; omega⟩) hS (fun q _ h => hFc_31 q h) hFc_31 (fun u_31 ra_31 t_31 H_31 locs_31 ht_31 hvm_31 hw_31 hB_31 hz_31 hk_31 hS_31 => ?_)
          obtain ⟨g_31, hP1_31, hD1_31⟩ := hB_31
          rw [ht_31] at hP1_31
          obtain ⟨hP_31, hD_31⟩ := va_join (wr := [(h0, .inr (4, oX1 v_steps (.ref h5) (.ref h6) v_wholeOnly v_start v_mode v_node v_place v_limit v_verdict (.ref h1) (.ref h7) (.ref h8) (.ref h9) (.ref h2) (.ref h3) v_choiceCount (.ref h4) v_trailCount)), (h1, .inl (k0, 266, .inl v_cells)), (h2, .inl (k1, nv_choices, .inl v_choices)), (h3, .inl (k2, nv_heights, .inl v_heights))]) (w1 := [(h4, .inl (k3, nv_trail, .inl v_trail)), (ra_31, .inl (k3, (2 * nv_trail), .inl g_31))]) hP hD [4] [0, 1, 2, 3] rfl rfl (by decide) (by decide) hk_31 hFc_31 hP1_31 hD1_31
          have hP_31 := hP_31.sub (ws' := [(h0, .inr (4, oX1 v_steps (.ref h5) (.ref h6) v_wholeOnly v_start v_mode v_node v_place v_limit v_verdict (.ref h1) (.ref h7) (.ref h8) (.ref h9) (.ref h2) (.ref h3) v_choiceCount (.ref h4) v_trailCount)), (h1, .inl (k0, 266, .inl v_cells)), (h2, .inl (k1, nv_choices, .inl v_choices)), (h3, .inl (k2, nv_heights, .inl v_heights)), (h4, .inl (k3, nv_trail, .inl v_trail)), (ra_31, .inl (k3, (2 * nv_trail), .inl g_31))]) [0, 1, 2, 3, 4, 5] rfl
          have hD_31 := hD_31.sub (ws' := [(h0, .inr (4, oX1 v_steps (.ref h5) (.ref h6) v_wholeOnly v_start v_mode v_node v_place v_limit v_verdict (.ref h1) (.ref h7) (.ref h8) (.ref h9) (.ref h2) (.ref h3) v_choiceCount (.ref h4) v_trailCount)), (h1, .inl (k0, 266, .inl v_cells)), (h2, .inl (k1, nv_choices, .inl v_choices)), (h3, .inl (k2, nv_heights, .inl v_heights)), (h4, .inl (k3, nv_trail, .inl v_trail)), (ra_31, .inl (k3, (2 * nv_trail), .inl g_31))]) [0, 1, 2, 3, 4, 5] (by decide) rfl
          clear hPc_31 hDc_31 hKc_31 hFc_31 hP1_31 hD1_31 hk_31 hz_31
          refine W_eqc (c2 := qc - (qc - 1)) (s2 := qs - (qs - 2 * nv_trail)) (by omega) (by omega) ?_
          have hq1_31 : (qc - 1) ≤ qc := by omega
          have hq2_31 : (qs - 2 * nv_trail) ≤ qs := by omega
          refine va_put (D := (dC, dI)) (ci := 4) (v := .ref ra_31) (ty := .array .int) (C := RX1) (T := TX1) (N := 19) hx hb ht inX1 tyX1 tyX1_ok nmX1 hown hK hP_31 hD_31 hS_31 0 rfl rfl 17 (by decide) (ht _ tw_538) (fun _ h9 => h9) rfl (by decide +kernel) rfl rfl (Nat.le_of_ble_eq_true rfl) dX1_setCell_51 (fun H_33 locs_33 hP_33 hD_33 hS_33 => ?_)
          have hP_33 : va_P (dC, dI) vwCl [(h0, .inr (4, oX1 v_steps (.ref h5) (.ref h6) v_wholeOnly v_start v_mode v_node v_place v_limit v_verdict (.ref h1) (.ref h7) (.ref h8) (.ref h9) (.ref h2) (.ref h3) v_choiceCount (.ref ra_31) v_trailCount)), (h1, .inl (k0, 266, .inl v_cells)), (h2, .inl (k1, nv_choices, .inl v_choices)), (h3, .inl (k2, nv_heights, .inl v_heights)), (h4, .inl (k3, nv_trail, .inl v_trail)), (ra_31, .inl (k3, (2 * nv_trail), .inl g_31))] H_33 := hP_33
          have hD_33 : va_D A [(h0, .inr (4, oX1 v_steps (.ref h5) (.ref h6) v_wholeOnly v_start v_mode v_node v_place v_limit v_verdict (.ref h1) (.ref h7) (.ref h8) (.ref h9) (.ref h2) (.ref h3) v_choiceCount (.ref ra_31) v_trailCount)), (h1, .inl (k0, 266, .inl v_cells)), (h2, .inl (k1, nv_choices, .inl v_choices)), (h3, .inl (k2, nv_heights, .inl v_heights)), (h4, .inl (k3, nv_trail, .inl v_trail)), (ra_31, .inl (k3, (2 * nv_trail), .inl g_31))] := hD_33
          refine lv_aload_n hx hb dX1_setCell_54 rfl (lv_at hl 0 rfl) ?_
          refine va_get (D := (dC, dI)) (ci := 4) (v := .int v_trailCount) (C := RX1) (T := TX1) (N := 19) hx hb ht inX1 hown hK hP_33 0 rfl rfl 18 (by decide) (ht _ tw_539) (fun _ h9 => h9) rfl dX1_setCell_55 ?_
          have k_100103 : ∀ (v_trailCount_100103 : Int32) (v_cells_100103 : Nat → Int32) (v_trail_100103 : Nat → Int32) (hN48_100103 : Nat) (vN48_100103 : Nat → Int32) (nN48_100103 : Nat), ∀ (H_b100103 : Heap) (locs_b100103 : List Loc) (ls_b100103 : Array Slot) (q1_b100103 q2_b100103 : Nat), w_X1_setCell_100103 p1 p2 Q v_trailCount_100103 v_cells_100103 v_trail_100103 hN48_100103 vN48_100103 nN48_100103 → va_P (dC, dI) vwCl [(h0, .inr (4, oX1 v_steps (.ref h5) (.ref h6) v_wholeOnly v_start v_mode v_node v_place v_limit v_verdict (.ref h1) (.ref h7) (.ref h8) (.ref h9) (.ref h2) (.ref h3) v_choiceCount (.ref hN48_100103) v_trailCount_100103)), (h1, .inl (k0, 266, .inl v_cells_100103)), (h2, .inl (k1, nv_choices, .inl v_choices)), (h3, .inl (k2, nv_heights, .inl v_heights)), (h4, .inl (k3, nv_trail, .inl v_trail_100103)), (hN48_100103, .inl (k3, nN48_100103, .inl vN48_100103))] H_b100103 → va_D A [(h0, .inr (4, oX1 v_steps (.ref h5) (.ref h6) v_wholeOnly v_start v_mode v_node v_place v_limit v_verdict (.ref h1) (.ref h7) (.ref h8) (.ref h9) (.ref h2) (.ref h3) v_choiceCount (.ref hN48_100103) v_trailCount_100103)), (h1, .inl (k0, 266, .inl v_cells_100103)), (h2, .inl (k1, nv_choices, .inl v_choices)), (h3, .inl (k2, nv_heights, .inl v_heights)), (h4, .inl (k3, nv_trail, .inl v_trail_100103)), (hN48_100103, .inl (k3, nN48_100103, .inl vN48_100103))] → va_S A s.heap H_b100103 locs_b100103 → lv_has ls_b100103 3 [(0, .ref h0), (1, .int p1), (2, .int p2)] → gLn nv_choices nv_heights nN48_100103 q1_b100103 q2_b100103 → q1_b100103 ≤ qc → q2_b100103 ≤ qs → W p l e ({ frames := 2, cells := qc, slots := qs, locals := 62 } : Room) s m ([.ref h0, .int p1, .int p2]).toArray below meth c H_b100103 locs_b100103 (qc - q1_b100103) (qs - q2_b100103) QQ (F0 m 103 ls_b100103 []) := by
            intro v_trailCount_100103 v_cells_100103 v_trail_100103 hN48_100103 vN48_100103 nN48_100103 H_b100103 locs_b100103 ls_b100103 q1_b100103 q2_b100103 w_b100103 hP_b100103 hD_b100103 hS_b100103 hl_b100103 hL_b100103 hq1_b100103 hq2_b100103
            unfold w_X1_setCell_100103 at w_b100103
            refine lv_aload_n hx hb dX1_setCell_103 rfl (lv_at hl_b100103 0 rfl) ?_
            refine va_get (D := (dC, dI)) (ci := 4) (v := .ref h1) (C := RX1) (T := TX1) (N := 19) hx hb ht inX1 hown hK hP_b100103 0 rfl rfl 10 (by decide) (ht _ tw_531) (fun _ h9 => h9) rfl dX1_setCell_104 ?_
            refine lv_iload_n hx hb dX1_setCell_107 rfl (lv_at hl_b100103 1 rfl) ?_
            refine lv_iload_n hx hb dX1_setCell_108 rfl (lv_at hl_b100103 2 rfl) ?_
            refine va_iast hx hb hK hP_b100103 hD_b100103 hS_b100103 1 0 rfl rfl (i := p1) w_b100103.1 dX1_setCell_109 (fun H_34 locs_34 hP_34 hD_34 hS_34 => ?_)
            obtain ⟨g_34, hg_34⟩ : ∃ g : Nat → Int32, g = upd v_cells_100103 p1.toNatClampNeg p2 := ⟨_, rfl⟩
            have hP_34 : va_P (dC, dI) vwCl [(h0, .inr (4, oX1 v_steps (.ref h5) (.ref h6) v_wholeOnly v_start v_mode v_node v_place v_limit v_verdict (.ref h1) (.ref h7) (.ref h8) (.ref h9) (.ref h2) (.ref h3) v_choiceCount (.ref hN48_100103) v_trailCount_100103)), (h1, .inl (k0, 266, .inl g_34)), (h2, .inl (k1, nv_choices, .inl v_choices)), (h3, .inl (k2, nv_heights, .inl v_heights)), (h4, .inl (k3, nv_trail, .inl v_trail_100103)), (hN48_100103, .inl (k3, nN48_100103, .inl vN48_100103))] H_34 := by rw [hg_34]; exact hP_34
            have hD_34 : va_D A [(h0, .inr (4, oX1 v_steps (.ref h5) (.ref h6) v_wholeOnly v_start v_mode v_node v_place v_limit v_verdict (.ref h1) (.ref h7) (.ref h8) (.ref h9) (.ref h2) (.ref h3) v_choiceCount (.ref hN48_100103) v_trailCount_100103)), (h1, .inl (k0, 266, .inl g_34)), (h2, .inl (k1, nv_choices, .inl v_choices)), (h3, .inl (k2, nv_heights, .inl v_heights)), (h4, .inl (k3, nv_trail, .inl v_trail_100103)), (hN48_100103, .inl (k3, nN48_100103, .inl vN48_100103))] := by rw [hg_34]; exact hD_34
            have ek_36 : k3 = k3 := va_kk hK 3 3 rfl rfl
            have hP_35 := hP_34.sub (ws' := [(h0, .inr (4, oX1 v_steps (.ref h5) (.ref h6) v_wholeOnly v_start v_mode v_node v_place v_limit v_verdict (.ref h1) (.ref h7) (.ref h8) (.ref h9) (.ref h2) (.ref h3) v_choiceCount (.ref hN48_100103) v_trailCount_100103)), (h1, .inl (k0, 266, .inl g_34)), (h2, .inl (k1, nv_choices, .inl v_choices)), (h3, .inl (k2, nv_heights, .inl v_heights)), (hN48_100103, .inl (k3, nN48_100103, .inl vN48_100103))]) [0, 1, 2, 3, 5] rfl
            have hD_35 := hD_34.sub (ws' := [(h0, .inr (4, oX1 v_steps (.ref h5) (.ref h6) v_wholeOnly v_start v_mode v_node v_place v_limit v_verdict (.ref h1) (.ref h7) (.ref h8) (.ref h9) (.ref h2) (.ref h3) v_choiceCount (.ref hN48_100103) v_trailCount_100103)), (h1, .inl (k0, 266, .inl g_34)), (h2, .inl (k1, nv_choices, .inl v_choices)), (h3, .inl (k2, nv_heights, .inl v_heights)), (hN48_100103, .inl (k3, nN48_100103, .inl vN48_100103))]) [0, 1, 2, 3, 5] (by decide) rfl
            try subst ek_36
            refine W_gain (fun ga_37 gb_37 gc_37 gd_37 => ?_)
            refine W.widen (k := qc) (n := qs) (by omega) (by omega) ?_
            rw [hQQ]
            exact W.vret hx hb hr (fun t9 ht9 hW9 => ⟨⟨0, rfl, rfl, ⟨v_trailCount_100103, g_34, hN48_100103, vN48_100103, nN48_100103, q1_b100103, q2_b100103, w_b100103.2 g_34 hg_34, ⟨hL_b100103, hq1_b100103, hq2_b100103, by rw [ht9]; omega, by rw [ht9]; omega⟩, by rw [ht9]; exact hP_35, hD_35⟩⟩, hS_34.F ht9⟩) hS_34.2.2 dX1_setCell_110
          refine lv_if_lt (tgt := 103) hx hb dX1_setCell_58 (by decide) (fun c_38 => ?_) (fun c_38 => ?_)
          · exact k_100103 v_trailCount v_cells v_trail ra_31 g_31 (2 * nv_trail) _ _ _ _ _ ((w_32.2.2 g_31 ra_31).1 c_38) hP_33 hD_33 hS_33 (lv_sub hl [0, 1, 2] rfl) hL_31 hq1_31 hq2_31
          · refine lv_aload_n hx hb dX1_setCell_61 rfl (lv_at hl 0 rfl) ?_
            refine va_get (D := (dC, dI)) (ci := 4) (v := .int v_trailCount) (C := RX1) (T := TX1) (N := 19) hx hb ht inX1 hown hK hP_33 0 rfl rfl 18 (by decide) (ht _ tw_539) (fun _ h9 => h9) rfl dX1_setCell_62 ?_
            refine lv_aload_n hx hb dX1_setCell_65 rfl (lv_at hl 0 rfl) ?_
            refine va_get (D := (dC, dI)) (ci := 4) (v := .ref ra_31) (C := RX1) (T := TX1) (N := 19) hx hb ht inX1 hown hK hP_33 0 rfl rfl 17 (by decide) (ht _ tw_538) (fun _ h9 => h9) rfl dX1_setCell_66 ?_
            refine va_alen hx hb hK hP_33 5 3 rfl rfl rfl dX1_setCell_69 ?_
            refine lv_topi (fun x_39 ex_39 => ?_)
            have ex_39 : x_39 = Int32.ofNat (2 * nv_trail) := ex_39
            have hn_40 : (2 * nv_trail) ≤ 524288 := by have h9 := gLn_b hL_31; omega
            have w_41 := (((w_32.2.2 g_31 ra_31).2 c_38) x_39 ex_39) hn_40
            refine lv_icmp_ge (tgt := 103) hx hb dX1_setCell_70 (by decide) (fun c_42 => ?_) (fun c_42 => ?_)
            · exact k_100103 v_trailCount v_cells v_trail ra_31 g_31 (2 * nv_trail) _ _ _ _ _ (w_41.1 c_42) hP_33 hD_33 hS_33 (lv_sub hl [0, 1, 2] rfl) hL_31 hq1_31 hq2_31
            · refine lv_aload_n hx hb dX1_setCell_73 rfl (lv_at hl 0 rfl) ?_
              refine va_get (D := (dC, dI)) (ci := 4) (v := .ref ra_31) (C := RX1) (T := TX1) (N := 19) hx hb ht inX1 hown hK hP_33 0 rfl rfl 17 (by decide) (ht _ tw_538) (fun _ h9 => h9) rfl dX1_setCell_74 ?_
              refine lv_aload_n hx hb dX1_setCell_77 rfl (lv_at hl 0 rfl) ?_
              refine va_get (D := (dC, dI)) (ci := 4) (v := .int v_trailCount) (C := RX1) (T := TX1) (N := 19) hx hb ht inX1 hown hK hP_33 0 rfl rfl 18 (by decide) (ht _ tw_539) (fun _ h9 => h9) rfl dX1_setCell_78 ?_
              refine lv_iload_n hx hb dX1_setCell_81 rfl (lv_at hl 1 rfl) ?_
              refine lv_ldc hx hb hown (ht _ tw_1669) dX1_setCell_82 ?_
              refine lv_imul hx hb dX1_setCell_84 ?_
              refine lv_topi (fun x_43 ex_43 => ?_)
              have ex_43 : x_43 = p1 * (65536 : Int32) := ex_43
              refine lv_aload_n hx hb dX1_setCell_85 rfl (lv_at hl 0 rfl) ?_
              refine va_get (D := (dC, dI)) (ci := 4) (v := .ref h1) (C := RX1) (T := TX1) (N := 19) hx hb ht inX1 hown hK hP_33 0 rfl rfl 10 (by decide) (ht _ tw_531) (fun _ h9 => h9) rfl dX1_setCell_86 ?_
              refine lv_iload_n hx hb dX1_setCell_89 rfl (lv_at hl 1 rfl) ?_
              refine va_iald hx hb hK hP_33 1 0 rfl rfl (i := p1) (w_41.2 c_42 x_43 ex_43).1 dX1_setCell_90 ?_
              refine lv_topi (fun x_44 ex_44 => ?_)
              have ex_44 : x_44 = v_cells p1.toNatClampNeg := ex_44
              refine lv_iadd hx hb dX1_setCell_91 ?_
              refine lv_topi (fun x_45 ex_45 => ?_)
              have ex_45 : x_45 = x_43 + x_44 := ex_45
              have w_46 := (((w_41.2 c_42 x_43 ex_43).2) x_44 ex_44) x_45 ex_45
              refine va_iast hx hb hK hP_33 hD_33 hS_33 5 3 rfl rfl (i := v_trailCount) w_46.1 dX1_setCell_92 (fun H_47 locs_47 hP_47 hD_47 hS_47 => ?_)
              obtain ⟨g_47, hg_47⟩ : ∃ g : Nat → Int32, g = upd g_31 v_trailCount.toNatClampNeg x_45 := ⟨_, rfl⟩
              have hP_47 : va_P (dC, dI) vwCl [(h0, .inr (4, oX1 v_steps (.ref h5) (.ref h6) v_wholeOnly v_start v_mode v_node v_place v_limit v_verdict (.ref h1) (.ref h7) (.ref h8) (.ref h9) (.ref h2) (.ref h3) v_choiceCount (.ref ra_31) v_trailCount)), (h1, .inl (k0, 266, .inl v_cells)), (h2, .inl (k1, nv_choices, .inl v_choices)), (h3, .inl (k2, nv_heights, .inl v_heights)), (h4, .inl (k3, nv_trail, .inl v_trail)), (ra_31, .inl (k3, (2 * nv_trail), .inl g_47))] H_47 := by rw [hg_47]; exact hP_47
              have hD_47 : va_D A [(h0, .inr (4, oX1 v_steps (.ref h5) (.ref h6) v_wholeOnly v_start v_mode v_node v_place v_limit v_verdict (.ref h1) (.ref h7) (.ref h8) (.ref h9) (.ref h2) (.ref h3) v_choiceCount (.ref ra_31) v_trailCount)), (h1, .inl (k0, 266, .inl v_cells)), (h2, .inl (k1, nv_choices, .inl v_choices)), (h3, .inl (k2, nv_heights, .inl v_heights)), (h4, .inl (k3, nv_trail, .inl v_trail)), (ra_31, .inl (k3, (2 * nv_trail), .inl g_47))] := by rw [hg_47]; exact hD_47
              refine lv_aload_n hx hb dX1_setCell_93 rfl (lv_at hl 0 rfl) ?_
              refine lv_dup hx hb dX1_setCell_94 rfl ?_
              refine va_get (D := (dC, dI)) (ci := 4) (v := .int v_trailCount) (C := RX1) (T := TX1) (N := 19) hx hb ht inX1 hown hK hP_47 0 rfl rfl 18 (by decide) (ht _ tw_539) (fun _ h9 => h9) rfl dX1_setCell_95 ?_
              refine lv_iconst (v := 1) hx hb dX1_setCell_98 (by decide) ?_
              refine lv_iadd hx hb dX1_setCell_99 ?_
              refine lv_topi (fun x_48 ex_48 => ?_)
              have ex_48 : x_48 = v_trailCount + (1 : Int32) := ex_48
              refine va_put (D := (dC, dI)) (ci := 4) (v := .int x_48) (ty := .int) (C := RX1) (T := TX1) (N := 19) hx hb ht inX1 tyX1 tyX1_ok nmX1 hown hK hP_47 hD_47 hS_47 0 rfl rfl 18 (by decide) (ht _ tw_539) (fun _ h9 => h9) rfl (by decide +kernel) rfl rfl (Nat.le_of_ble_eq_true rfl) dX1_setCell_100 (fun H_49 locs_49 hP_49 hD_49 hS_49 => ?_)
              have hP_49 : va_P (dC, dI) vwCl [(h0, .inr (4, oX1 v_steps (.ref h5) (.ref h6) v_wholeOnly v_start v_mode v_node v_place v_limit v_verdict (.ref h1) (.ref h7) (.ref h8) (.ref h9) (.ref h2) (.ref h3) v_choiceCount (.ref ra_31) x_48)), (h1, .inl (k0, 266, .inl v_cells)), (h2, .inl (k1, nv_choices, .inl v_choices)), (h3, .inl (k2, nv_heights, .inl v_heights)), (h4, .inl (k3, nv_trail, .inl v_trail)), (ra_31, .inl (k3, (2 * nv_trail), .inl g_47))] H_49 := hP_49
              have hD_49 : va_D A [(h0, .inr (4, oX1 v_steps (.ref h5) (.ref h6) v_wholeOnly v_start v_mode v_node v_place v_limit v_verdict (.ref h1) (.ref h7) (.ref h8) (.ref h9) (.ref h2) (.ref h3) v_choiceCount (.ref ra_31) x_48)), (h1, .inl (k0, 266, .inl v_cells)), (h2, .inl (k1, nv_choices, .inl v_choices)), (h3, .inl (k2, nv_heights, .inl v_heights)), (h4, .inl (k3, nv_trail, .inl v_trail)), (ra_31, .inl (k3, (2 * nv_trail), .inl g_47))] := hD_49
              exact k_100103 x_48 v_cells v_trail ra_31 g_47 (2 * nv_trail) _ _ _ _ _ (w_46.2 g_47 hg_47 x_48 ex_48) hP_49 hD_49 hS_49 (lv_sub hl [0, 1, 2] rfl) hL_31 hq1_31 hq2_31
    · exact k_13 v_trailCount v_cells v_trail _ _ _ _ _ ((w.2 c_3).2 c_4) hP hD hS (lv_sub hl [] rfl) hL hq1 hq2
