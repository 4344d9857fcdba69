def w_X4_isGrouped_52 (Q : Int32 → Prop) (s0_52 : Int32) : Prop :=
  (s0_52 = 0 ∨ s0_52 = 1) ∧ Q s0_52
def w_X4_isGrouped_47 (Q : Int32 → Prop) : Prop :=
  w_X4_isGrouped_52 Q 1
def w_X4_isGrouped_75 (Q : Int32 → Prop) (s0_75 : Int32) : Prop :=
  (s0_75 = 0 ∨ s0_75 = 1) ∧ Q s0_75
def w_X4_isGrouped_70 (Q : Int32 → Prop) : Prop :=
  w_X4_isGrouped_75 Q 1
def w_X4_isGrouped_87 (Q : Int32 → Prop) (s0_87 : Int32) : Prop :=
  (s0_87 = 0 ∨ s0_87 = 1) ∧ Q s0_87
def w_X4_isGrouped (p0 : Int32) (p1 : Int32) (p2 : Int32) (Q : Int32 → Prop) : Prop :=
  ((¬ p2 = (-1)) → ((p0 = 5) → ((p1 = 5) → w_X4_isGrouped_47 Q) ∧ ((¬ p1 = 5) → ((¬ p1 = 7) → w_X4_isGrouped_52 Q 0) ∧ ((p1 = 7) → w_X4_isGrouped_47 Q))) ∧ ((p0 = 6) → ((p1 = 5) → w_X4_isGrouped_70 Q) ∧ ((¬ p1 = 5) → ((p1 = 7) → w_X4_isGrouped_70 Q) ∧ ((¬ p1 = 7) → ((¬ p1 = 6) → w_X4_isGrouped_75 Q 0) ∧ ((p1 = 6) → w_X4_isGrouped_70 Q)))) ∧ ((p0 = 7) → ((¬ p1 = 7) → w_X4_isGrouped_87 Q 0) ∧ ((p1 = 7) → w_X4_isGrouped_87 Q 1)) ∧ ((¬ p0 = 5) → (¬ p0 = 6) → (¬ p0 = 7) → Q 0)) ∧ ((p2 = (-1)) → Q 0)
set_option maxHeartbeats 4000000 in
set_option maxRecDepth 100000 in
theorem mt_X4_isGrouped (l : Launch) (dC : Nat → ClassId) (dI : Nat → Nat → Nat) (p0 : Int32) (p1 : Int32) (p2 : Int32) (Q : Int32 → Prop) (w : w_X4_isGrouped p0 p1 p2 Q) (sz : Nat) : Met l yX4_isGrouped (WS yX4_isGrouped cX4_isGrouped 3 (some (.boolean))) ({ frames := 0, cells := 0, slots := 0, locals := 0 } : Room) (va_Pc [.int p0, .int p1, .int p2] (fun U => U.heap.size = sz ∧ va_P (dC, dI) vwCl [] U.heap ∧ va_K (dC, dI) vwCl [] U ∧ va_D (fun _ => True) [])) (va_Qi (fun (r u : Int32) => r = u) (fun (u : Int32) (t : State) => (Q u) ∧ va_P (dC, dI) vwCl [] t.heap ∧ va_D (va_A [] sz) []) (va_A [] sz)) 0 0 (va_A [] sz) := by
  refine Met.ofW (cc := cX4_isGrouped) (maxL := 3) (ret := (some (.boolean))) (by decide) rfl ?_
  intro p e s m args below meth c s₁ B hml hv
  obtain ⟨rfl, hsz, hP, hK, hD0⟩ := hv
  have hx := B.exec
  have hb := B.bytes
  have hr := B.returns
  have hts := atoms_spec (ws := WS yX4_isGrouped cX4_isGrouped 3 (some (.boolean))) B.pre
  have ht : ∀ w ∈ TW, w.before _ s = true := fun w h => hts w (List.mem_cons_of_mem _ h)
  have hown : s.vm.findClass "PatternWorkshop$Printer" = some m.cls := findClass_of_methodNamed B.named
  have hlocks := B.notSynchronized
  subst hsz
  have hD := hD0.self (sz := s.heap.size)
  generalize hAe : va_A [] s.heap.size = A at hD ⊢
  have hA : ∀ q : Nat, s.heap.size ≤ q → A q := fun q h => by rw [← hAe]; exact Or.inr h
  have hS : va_S A s.heap s.heap [] := va_S.rf
  have hP : va_P (dC, dI) vwCl [] s.heap := hP
  have hl := lv_entry ([.int p0, .int p1, .int p2]) (n := 3) (Nat.le_of_ble_eq_true rfl)
  rw [lg_entry_eq]
  generalize (lg_sl ([.int p0, .int p1, .int p2]) ++ List.replicate (3 - (lg_sl ([.int p0, .int p1, .int p2])).length) Slot.unset).toArray = ls at hl ⊢
  have hl : lv_has ls 3 [(0, .int p0), (1, .int p1), (2, .int p2)] := hl
  clear hD0
  obtain ⟨QQ, hQQ⟩ : ∃ QQ, QQ = MQ below (va_Qi (fun (r u : Int32) => r = u) (fun (u : Int32) (t : State) => (Q u) ∧ va_P (dC, dI) vwCl [] t.heap ∧ va_D A []) A) ([.int p0, .int p1, .int p2]).toArray s 0 0 A := ⟨_, rfl⟩
  show W p l e ({ frames := 0, cells := 0, slots := 0, locals := 0 } : Room) s m ([.int p0, .int p1, .int p2]).toArray below meth c s.heap [] 0 0 (MQ below (va_Qi (fun (r u : Int32) => r = u) (fun (u : Int32) (t : State) => (Q u) ∧ va_P (dC, dI) vwCl [] t.heap ∧ va_D A []) A) ([.int p0, .int p1, .int p2]).toArray s 0 0 A) (F0 m 0 ls [])
  rw [← hQQ]
  unfold w_X4_isGrouped at w
  refine lv_iload_n hx hb dX4_isGrouped_0 rfl (lv_at hl 2 rfl) ?_
  refine lv_iconst (v := (-1)) hx hb dX4_isGrouped_1 (by decide) ?_
  refine lv_icmp_ne (tgt := 7) hx hb dX4_isGrouped_2 (by decide) (fun c_1 => ?_) (fun c_1 => ?_)
  · refine lv_iload_n hx hb dX4_isGrouped_7 rfl (lv_at hl 0 rfl) ?_
    by_cases c_2_0 : p0 = 5
    · refine lv_tableIn (tgt := 36) (off := 28) hx hb dX4_isGrouped_8 (by rw [c_2_0]; decide) (by rw [c_2_0]; decide) (by rw [c_2_0]; decide) (by decide) ?_
      refine lv_iload_n hx hb dX4_isGrouped_36 rfl (lv_at hl 1 rfl) ?_
      refine lv_iconst (v := 5) hx hb dX4_isGrouped_37 (by decide) ?_
      have k_52 : ∀ (s0_52 : Int32), ∀ (H_b52 : Heap) (locs_b52 : List Loc) (ls_b52 : Array Slot), w_X4_isGrouped_52 Q s0_52 → va_P (dC, dI) vwCl [] H_b52 → va_D A [] → va_S A s.heap H_b52 locs_b52 → lv_has ls_b52 3 [] → W p l e ({ frames := 0, cells := 0, slots := 0, locals := 0 } : Room) s m ([.int p0, .int p1, .int p2]).toArray below meth c H_b52 locs_b52 0 0 QQ (F0 m 52 ls_b52 [.int s0_52]) := by
        intro s0_52 H_b52 locs_b52 ls_b52 w_b52 hP_b52 hD_b52 hS_b52 hl_b52
        unfold w_X4_isGrouped_52 at w_b52
        rw [hQQ]
        exact W.zret (v := s0_52) hx hb hr (or_nar w_b52.1) (fun t9 ht9 hW9 => ⟨⟨s0_52, s0_52, rfl, rfl, ⟨w_b52.2, by rw [ht9]; exact hP_b52, hD_b52⟩⟩, hS_b52.F ht9⟩) hS_b52.2.2 dX4_isGrouped_52
      have k_47 : ∀ (H_b47 : Heap) (locs_b47 : List Loc) (ls_b47 : Array Slot), w_X4_isGrouped_47 Q → va_P (dC, dI) vwCl [] H_b47 → va_D A [] → va_S A s.heap H_b47 locs_b47 → lv_has ls_b47 3 [] → W p l e ({ frames := 0, cells := 0, slots := 0, locals := 0 } : Room) s m ([.int p0, .int p1, .int p2]).toArray below meth c H_b47 locs_b47 0 0 QQ (F0 m 47 ls_b47 []) := by
        intro  H_b47 locs_b47 ls_b47 w_b47 hP_b47 hD_b47 hS_b47 hl_b47
        unfold w_X4_isGrouped_47 at w_b47
        refine lv_iconst (v := 1) hx hb dX4_isGrouped_47 (by decide) ?_
        refine lv_goto (tgt := 52) hx hb dX4_isGrouped_48 (by decide) ?_
        exact k_52 1 _ _ _ w_b47 hP_b47 hD_b47 hS_b47 (lv_sub hl_b47 [] rfl)
      refine lv_icmp_eq (tgt := 47) hx hb dX4_isGrouped_38 (by decide) (fun c_3 => ?_) (fun c_3 => ?_)
      · exact k_47  _ _ _ (((w.1 c_1).1 c_2_0).1 c_3) hP hD hS (lv_sub hl [] rfl)
      · refine lv_iload_n hx hb dX4_isGrouped_41 rfl (lv_at hl 1 rfl) ?_
        refine lv_bipush (v := 7) hx hb dX4_isGrouped_42 (by decide) ?_
        refine lv_icmp_ne (tgt := 51) hx hb dX4_isGrouped_44 (by decide) (fun c_4 => ?_) (fun c_4 => ?_)
        · refine lv_iconst (v := 0) hx hb dX4_isGrouped_51 (by decide) ?_
          exact k_52 0 _ _ _ ((((w.1 c_1).1 c_2_0).2 c_3).1 c_4) hP hD hS (lv_sub hl [] rfl)
        · exact k_47  _ _ _ ((((w.1 c_1).1 c_2_0).2 c_3).2 c_4) hP hD hS (lv_sub hl [] rfl)
    by_cases c_2_1 : p0 = 6
    · refine lv_tableIn (tgt := 53) (off := 45) hx hb dX4_isGrouped_8 (by rw [c_2_1]; decide) (by rw [c_2_1]; decide) (by rw [c_2_1]; decide) (by decide) ?_
      refine lv_iload_n hx hb dX4_isGrouped_53 rfl (lv_at hl 1 rfl) ?_
      refine lv_iconst (v := 5) hx hb dX4_isGrouped_54 (by decide) ?_
      have k_75 : ∀ (s0_75 : Int32), ∀ (H_b75 : Heap) (locs_b75 : List Loc) (ls_b75 : Array Slot), w_X4_isGrouped_75 Q s0_75 → va_P (dC, dI) vwCl [] H_b75 → va_D A [] → va_S A s.heap H_b75 locs_b75 → lv_has ls_b75 3 [] → W p l e ({ frames := 0, cells := 0, slots := 0, locals := 0 } : Room) s m ([.int p0, .int p1, .int p2]).toArray below meth c H_b75 locs_b75 0 0 QQ (F0 m 75 ls_b75 [.int s0_75]) := by
        intro s0_75 H_b75 locs_b75 ls_b75 w_b75 hP_b75 hD_b75 hS_b75 hl_b75
        unfold w_X4_isGrouped_75 at w_b75
        rw [hQQ]
        exact W.zret (v := s0_75) hx hb hr (or_nar w_b75.1) (fun t9 ht9 hW9 => ⟨⟨s0_75, s0_75, rfl, rfl, ⟨w_b75.2, by rw [ht9]; exact hP_b75, hD_b75⟩⟩, hS_b75.F ht9⟩) hS_b75.2.2 dX4_isGrouped_75
      have k_70 : ∀ (H_b70 : Heap) (locs_b70 : List Loc) (ls_b70 : Array Slot), w_X4_isGrouped_70 Q → va_P (dC, dI) vwCl [] H_b70 → va_D A [] → va_S A s.heap H_b70 locs_b70 → lv_has ls_b70 3 [] → W p l e ({ frames := 0, cells := 0, slots := 0, locals := 0 } : Room) s m ([.int p0, .int p1, .int p2]).toArray below meth c H_b70 locs_b70 0 0 QQ (F0 m 70 ls_b70 []) := by
        intro  H_b70 locs_b70 ls_b70 w_b70 hP_b70 hD_b70 hS_b70 hl_b70
        unfold w_X4_isGrouped_70 at w_b70
        refine lv_iconst (v := 1) hx hb dX4_isGrouped_70 (by decide) ?_
        refine lv_goto (tgt := 75) hx hb dX4_isGrouped_71 (by decide) ?_
        exact k_75 1 _ _ _ w_b70 hP_b70 hD_b70 hS_b70 (lv_sub hl_b70 [] rfl)
      refine lv_icmp_eq (tgt := 70) hx hb dX4_isGrouped_55 (by decide) (fun c_5 => ?_) (fun c_5 => ?_)
      · exact k_70  _ _ _ ((((w.1 c_1).2).1 c_2_1).1 c_5) hP hD hS (lv_sub hl [] rfl)
      · refine lv_iload_n hx hb dX4_isGrouped_58 rfl (lv_at hl 1 rfl) ?_
        refine lv_bipush (v := 7) hx hb dX4_isGrouped_59 (by decide) ?_
        refine lv_icmp_eq (tgt := 70) hx hb dX4_isGrouped_61 (by decide) (fun c_6 => ?_) (fun c_6 => ?_)
        · exact k_70  _ _ _ (((((w.1 c_1).2).1 c_2_1).2 c_5).1 c_6) hP hD hS (lv_sub hl [] rfl)
        · refine lv_iload_n hx hb dX4_isGrouped_64 rfl (lv_at hl 1 rfl) ?_
          refine lv_bipush (v := 6) hx hb dX4_isGrouped_65 (by decide) ?_
          refine lv_icmp_ne (tgt := 74) hx hb dX4_isGrouped_67 (by decide) (fun c_7 => ?_) (fun c_7 => ?_)
          · refine lv_iconst (v := 0) hx hb dX4_isGrouped_74 (by decide) ?_
            have w_8 := (((((w.1 c_1).2).1 c_2_1).2 c_5).2 c_6).1 c_7
            exact k_75 0 _ _ _ w_8 hP hD hS (lv_sub hl [] rfl)
          · have w_9 := (((((w.1 c_1).2).1 c_2_1).2 c_5).2 c_6).2 c_7
            exact k_70  _ _ _ w_9 hP hD hS (lv_sub hl [] rfl)
    by_cases c_2_2 : p0 = 7
    · refine lv_tableIn (tgt := 76) (off := 68) hx hb dX4_isGrouped_8 (by rw [c_2_2]; decide) (by rw [c_2_2]; decide) (by rw [c_2_2]; decide) (by decide) ?_
      refine lv_iload_n hx hb dX4_isGrouped_76 rfl (lv_at hl 1 rfl) ?_
      refine lv_bipush (v := 7) hx hb dX4_isGrouped_77 (by decide) ?_
      have k_87 : ∀ (s0_87 : Int32), ∀ (H_b87 : Heap) (locs_b87 : List Loc) (ls_b87 : Array Slot), w_X4_isGrouped_87 Q s0_87 → va_P (dC, dI) vwCl [] H_b87 → va_D A [] → va_S A s.heap H_b87 locs_b87 → lv_has ls_b87 3 [] → W p l e ({ frames := 0, cells := 0, slots := 0, locals := 0 } : Room) s m ([.int p0, .int p1, .int p2]).toArray below meth c H_b87 locs_b87 0 0 QQ (F0 m 87 ls_b87 [.int s0_87]) := by
        intro s0_87 H_b87 locs_b87 ls_b87 w_b87 hP_b87 hD_b87 hS_b87 hl_b87
        unfold w_X4_isGrouped_87 at w_b87
        rw [hQQ]
        exact W.zret (v := s0_87) hx hb hr (or_nar w_b87.1) (fun t9 ht9 hW9 => ⟨⟨s0_87, s0_87, rfl, rfl, ⟨w_b87.2, by rw [ht9]; exact hP_b87, hD_b87⟩⟩, hS_b87.F ht9⟩) hS_b87.2.2 dX4_isGrouped_87
      refine lv_icmp_ne (tgt := 86) hx hb dX4_isGrouped_79 (by decide) (fun c_10 => ?_) (fun c_10 => ?_)
      · refine lv_iconst (v := 0) hx hb dX4_isGrouped_86 (by decide) ?_
        exact k_87 0 _ _ _ (((((w.1 c_1).2).2).1 c_2_2).1 c_10) hP hD hS (lv_sub hl [] rfl)
      · refine lv_iconst (v := 1) hx hb dX4_isGrouped_82 (by decide) ?_
        refine lv_goto (tgt := 87) hx hb dX4_isGrouped_83 (by decide) ?_
        exact k_87 1 _ _ _ (((((w.1 c_1).2).2).1 c_2_2).2 c_10) hP hD hS (lv_sub hl [] rfl)
    have i_2 : ¬ (p0.toInt = 5 ∨ p0.toInt = 6 ∨ p0.toInt = 7) := by
      rintro (h9 | h9 | h9)
      · exact c_2_0 (Int32.toInt_inj.mp h9)
      · exact c_2_1 (Int32.toInt_inj.mp h9)
      · exact c_2_2 (Int32.toInt_inj.mp h9)
    refine lv_tableOut (tgt := 88) hx hb dX4_isGrouped_8 (by omega) (by decide) ?_
    refine lv_iconst (v := 0) hx hb dX4_isGrouped_88 (by decide) ?_
    rw [hQQ]
    exact W.zret (v := 0) hx hb hr rfl (fun t9 ht9 hW9 => ⟨⟨0, 0, rfl, rfl, ⟨((((w.1 c_1).2).2).2) c_2_0 c_2_1 c_2_2, by rw [ht9]; exact hP, hD⟩⟩, hS.F ht9⟩) hS.2.2 dX4_isGrouped_89
  · refine lv_iconst (v := 0) hx hb dX4_isGrouped_5 (by decide) ?_
    rw [hQQ]
    exact W.zret (v := 0) hx hb hr rfl (fun t9 ht9 hW9 => ⟨⟨0, 0, rfl, rfl, ⟨w.2 c_1, by rw [ht9]; exact hP, hD⟩⟩, hS.F ht9⟩) hS.2.2 dX4_isGrouped_6
def w_X4_writeEdge_54 (Q : Int32 → Bool → (Nat → Int32) → Prop) (v_row_count_54 : Int32) (v_row_over_54 : Bool) (v_row_items_54 : Nat → Int32) : Prop :=
  Q  v_row_count_54 v_row_over_54 v_row_items_54
def w_X4_writeEdge_51 (nv_row_items : Nat) (Q : Int32 → Bool → (Nat → Int32) → Prop) (s0_51 : Int32) (v_row_count_51 : Int32) (v_row_over_51 : Bool) (v_row_items_51 : Nat → Int32) : Prop :=
  w_X7_add s0_51 v_row_count_51 v_row_over_51 v_row_items_51 nv_row_items (fun r_3_0 r_3_1 r_3_2 => w_X4_writeEdge_54 Q r_3_0 r_3_1 r_3_2)
def w_X4_writeEdge_20 (nv_row_items : Nat) (Q : Int32 → Bool → (Nat → Int32) → Prop) (s0_20 : Int32) (v_row_count_20 : Int32) (v_row_over_20 : Bool) (v_row_items_20 : Nat → Int32) : Prop :=
  w_X7_add s0_20 v_row_count_20 v_row_over_20 v_row_items_20 nv_row_items (fun r_5_0 r_5_1 r_5_2 => w_X4_writeEdge_54 Q r_5_0 r_5_1 r_5_2)
def w_X4_writeEdge (p1 : Int32) (v_row_count : Int32) (v_row_over : Bool) (v_row_items : Nat → Int32) (nv_row_items : Nat) (Q : Int32 → Bool → (Nat → Int32) → Prop) : Prop :=
  ((2 ≤ p1) → w_X7_add 92 v_row_count v_row_over v_row_items nv_row_items (fun r_2_0 r_2_1 r_2_2 => ((¬ p1 = 2) → w_X4_writeEdge_51 nv_row_items Q 66 r_2_0 r_2_1 r_2_2) ∧ ((p1 = 2) → w_X4_writeEdge_51 nv_row_items Q 98 r_2_0 r_2_1 r_2_2))) ∧ ((¬ 2 ≤ p1) → ((¬ p1 = 0) → w_X4_writeEdge_20 nv_row_items Q 36 v_row_count v_row_over v_row_items) ∧ ((p1 = 0) → w_X4_writeEdge_20 nv_row_items Q 94 v_row_count v_row_over v_row_items))
set_option maxHeartbeats 4000000 in
set_option maxRecDepth 100000 in
theorem mt_X4_writeEdge (l : Launch) (dC : Nat → ClassId) (dI : Nat → Nat → Nat) (h0 h1 h2 : Nat) (k0 : ClassId) (p1 : Int32) (v_row_count : Int32) (v_row_over : Bool) (v_row_there : Bool) (v_row_items : Nat → Int32) (nv_row_items : Nat) (v_behindOpening : Int32) (Q : Int32 → Bool → (Nat → Int32) → Prop) (w : w_X4_writeEdge p1 v_row_count v_row_over v_row_items nv_row_items Q) (sz : Nat) : Met l yX4_writeEdge (WS yX4_writeEdge cX4_writeEdge 2 none) ({ frames := 1, cells := 0, slots := 0, locals := 21 } : Room) (va_Pc [.ref h0, .int p1] (fun U => U.heap.size = sz ∧ va_P (dC, dI) vwCl [(h1, .inr (10, oX7 (.ref h2) v_row_count v_row_over v_row_there)), (h2, .inl (k0, nv_row_items, .inl v_row_items)), (h0, .inr (7, oX4 (.ref h1) v_behindOpening))] U.heap ∧ va_K (dC, dI) vwCl [(k0, .int)] U ∧ va_D (fun _ => True) [(h1, .inr (10, oX7 (.ref h2) v_row_count v_row_over v_row_there)), (h2, .inl (k0, nv_row_items, .inl v_row_items)), (h0, .inr (7, oX4 (.ref h1) v_behindOpening))])) (va_Qv (fun (u : Nat) => u = 0) (fun (_ : Nat) (t : State) => ∃ (ov_row_count : Int32), ∃ (ov_row_over : Bool), ∃ (ov_row_items : Nat → Int32), (Q ov_row_count ov_row_over ov_row_items) ∧ va_P (dC, dI) vwCl [(h1, .inr (10, oX7 (.ref h2) ov_row_count ov_row_over v_row_there)), (h2, .inl (k0, nv_row_items, .inl ov_row_items)), (h0, .inr (7, oX4 (.ref h1) v_behindOpening))] t.heap ∧ va_D (va_A [(h1, .inr (10, oX7 (.ref h2) v_row_count v_row_over v_row_there)), (h2, .inl (k0, nv_row_items, .inl v_row_items)), (h0, .inr (7, oX4 (.ref h1) v_behindOpening))] sz) [(h1, .inr (10, oX7 (.ref h2) ov_row_count ov_row_over v_row_there)), (h2, .inl (k0, nv_row_items, .inl ov_row_items)), (h0, .inr (7, oX4 (.ref h1) v_behindOpening))]) (va_A [(h1, .inr (10, oX7 (.ref h2) v_row_count v_row_over v_row_there)), (h2, .inl (k0, nv_row_items, .inl v_row_items)), (h0, .inr (7, oX4 (.ref h1) v_behindOpening))] sz)) 0 0 (va_A [(h1, .inr (10, oX7 (.ref h2) v_row_count v_row_over v_row_there)), (h2, .inl (k0, nv_row_items, .inl v_row_items)), (h0, .inr (7, oX4 (.ref h1) v_behindOpening))] sz) := by
  refine Met.ofW (cc := cX4_writeEdge) (maxL := 2) (ret := none) (by decide) rfl ?_
  intro p e s m args below meth c s₁ B hml hv
  obtain ⟨rfl, hsz, hP, hK, hD0⟩ := hv
  have hx := B.exec
  have hb := B.bytes
  have hr := B.returns
  have hts := atoms_spec (ws := WS yX4_writeEdge cX4_writeEdge 2 none) B.pre
  have ht : ∀ w ∈ TW, w.before _ s = true := fun w h => hts w (List.mem_cons_of_mem _ h)
  have hown : s.vm.findClass "PatternWorkshop$Printer" = some m.cls := findClass_of_methodNamed B.named
  have hlocks := B.notSynchronized
  subst hsz
  have hD := hD0.self (sz := s.heap.size)
  generalize hAe : va_A [(h1, .inr (10, oX7 (.ref h2) v_row_count v_row_over v_row_there)), (h2, .inl (k0, nv_row_items, .inl v_row_items)), (h0, .inr (7, oX4 (.ref h1) v_behindOpening))] s.heap.size = A at hD ⊢
  have hA : ∀ q : Nat, s.heap.size ≤ q → A q := fun q h => by rw [← hAe]; exact Or.inr h
  have hS : va_S A s.heap s.heap [] := va_S.rf
  have hP : va_P (dC, dI) vwCl [(h1, .inr (10, oX7 (.ref h2) v_row_count v_row_over v_row_there)), (h2, .inl (k0, nv_row_items, .inl v_row_items)), (h0, .inr (7, oX4 (.ref h1) v_behindOpening))] s.heap := hP
  have hl := lv_entry ([.ref h0, .int p1]) (n := 2) (Nat.le_of_ble_eq_true rfl)
  rw [lg_entry_eq]
  generalize (lg_sl ([.ref h0, .int p1]) ++ List.replicate (2 - (lg_sl ([.ref h0, .int p1])).length) Slot.unset).toArray = ls at hl ⊢
  have hl : lv_has ls 2 [(0, .ref h0), (1, .int p1)] := hl
  clear hD0
  obtain ⟨QQ, hQQ⟩ : ∃ QQ, QQ = MQ below (va_Qv (fun (u : Nat) => u = 0) (fun (_ : Nat) (t : State) => ∃ (ov_row_count : Int32), ∃ (ov_row_over : Bool), ∃ (ov_row_items : Nat → Int32), (Q ov_row_count ov_row_over ov_row_items) ∧ va_P (dC, dI) vwCl [(h1, .inr (10, oX7 (.ref h2) ov_row_count ov_row_over v_row_there)), (h2, .inl (k0, nv_row_items, .inl ov_row_items)), (h0, .inr (7, oX4 (.ref h1) v_behindOpening))] t.heap ∧ va_D A [(h1, .inr (10, oX7 (.ref h2) ov_row_count ov_row_over v_row_there)), (h2, .inl (k0, nv_row_items, .inl ov_row_items)), (h0, .inr (7, oX4 (.ref h1) v_behindOpening))]) A) ([.ref h0, .int p1]).toArray s 0 0 A := ⟨_, rfl⟩
  show W p l e ({ frames := 1, cells := 0, slots := 0, locals := 21 } : Room) s m ([.ref h0, .int p1]).toArray below meth c s.heap [] 0 0 (MQ below (va_Qv (fun (u : Nat) => u = 0) (fun (_ : Nat) (t : State) => ∃ (ov_row_count : Int32), ∃ (ov_row_over : Bool), ∃ (ov_row_items : Nat → Int32), (Q ov_row_count ov_row_over ov_row_items) ∧ va_P (dC, dI) vwCl [(h1, .inr (10, oX7 (.ref h2) ov_row_count ov_row_over v_row_there)), (h2, .inl (k0, nv_row_items, .inl ov_row_items)), (h0, .inr (7, oX4 (.ref h1) v_behindOpening))] t.heap ∧ va_D A [(h1, .inr (10, oX7 (.ref h2) ov_row_count ov_row_over v_row_there)), (h2, .inl (k0, nv_row_items, .inl ov_row_items)), (h0, .inr (7, oX4 (.ref h1) v_behindOpening))]) A) ([.ref h0, .int p1]).toArray s 0 0 A) (F0 m 0 ls [])
  rw [← hQQ]
  unfold w_X4_writeEdge at w
  refine lv_iload_n hx hb dX4_writeEdge_0 rfl (lv_at hl 1 rfl) ?_
  refine lv_iconst (v := 2) hx hb dX4_writeEdge_1 (by decide) ?_
  have k_54 : ∀ (v_row_count_54 : Int32) (v_row_over_54 : Bool) (v_row_items_54 : Nat → Int32), ∀ (H_b54 : Heap) (locs_b54 : List Loc) (ls_b54 : Array Slot), w_X4_writeEdge_54 Q v_row_count_54 v_row_over_54 v_row_items_54 → va_P (dC, dI) vwCl [(h1, .inr (10, oX7 (.ref h2) v_row_count_54 v_row_over_54 v_row_there)), (h2, .inl (k0, nv_row_items, .inl v_row_items_54)), (h0, .inr (7, oX4 (.ref h1) v_behindOpening))] H_b54 → va_D A [(h1, .inr (10, oX7 (.ref h2) v_row_count_54 v_row_over_54 v_row_there)), (h2, .inl (k0, nv_row_items, .inl v_row_items_54)), (h0, .inr (7, oX4 (.ref h1) v_behindOpening))] → va_S A s.heap H_b54 locs_b54 → lv_has ls_b54 2 [] → W p l e ({ frames := 1, cells := 0, slots := 0, locals := 21 } : Room) s m ([.ref h0, .int p1]).toArray below meth c H_b54 locs_b54 0 0 QQ (F0 m 54 ls_b54 []) := by
    intro v_row_count_54 v_row_over_54 v_row_items_54 H_b54 locs_b54 ls_b54 w_b54 hP_b54 hD_b54 hS_b54 hl_b54
    unfold w_X4_writeEdge_54 at w_b54
    rw [hQQ]
    exact W.vret hx hb hr (fun t9 ht9 hW9 => ⟨⟨0, rfl, rfl, ⟨v_row_count_54, v_row_over_54, v_row_items_54, w_b54, by rw [ht9]; exact hP_b54, hD_b54⟩⟩, hS_b54.F ht9⟩) hS_b54.2.2 dX4_writeEdge_54
  refine lv_icmp_ge (tgt := 26) hx hb dX4_writeEdge_2 (by decide) (fun c_1 => ?_) (fun c_1 => ?_)
  · refine lv_aload_n hx hb dX4_writeEdge_26 rfl (lv_at hl 0 rfl) ?_
    refine va_get (D := (dC, dI)) (ci := 7) (v := .ref h1) (C := RX4) (T := TX4) (N := 2) hx hb ht inX4 hown hK hP 2 rfl rfl 0 (by decide) (ht _ tw_503) (fun _ h9 => h9) rfl dX4_writeEdge_27 ?_
    refine lv_bipush (v := 92) hx hb dX4_writeEdge_30 (by decide) ?_
    have hPc_2 := hP.sub (ws' := [(h1, .inr (10, oX7 (.ref h2) v_row_count v_row_over v_row_there)), (h2, .inl (k0, nv_row_items, .inl v_row_items))]) [0, 1] rfl
    have hDc_2 := hD.sub (ws' := [(h1, .inr (10, oX7 (.ref h2) v_row_count v_row_over v_row_there)), (h2, .inl (k0, nv_row_items, .inl v_row_items))]) [0, 1] (by decide) rfl
    have hKc_2 := hK.sub (tys' := [(k0, .int)]) [0] rfl
    have hFc_2 := va_free (wc := [(h1, .inr (10, oX7 (.ref h2) v_row_count v_row_over v_row_there)), (h2, .inl (k0, nv_row_items, .inl v_row_items))]) hD hS hA [0, 1] rfl
    refine va_callv (va_runV (As := [.int 92]) (rest := []) ⟨hx, hb, hml, hown, ht⟩ (mt_X7_add l dC dI h1 h2 k0 92 v_row_count v_row_over v_row_there v_row_items nv_row_items _ (w.1 c_1) s.heap.size) (cwV 1 ht (goodV tw_1209 tw_866 tw_867 tw_237 gw_X7_add) rfl rfl rfl (by decide +kernel) ⟨Nat.le_of_ble_eq_true rfl, Nat.le_of_ble_eq_true rfl⟩) ⟨fun a U g mk q => by obtain ⟨q0, q1, qP, qK, qD⟩ := q; exact ⟨q0, q1, qP, va_K.moved (u := U) (U := U.calling g mk a) (Vm.Alike.refl U.vm) qK, qD⟩, va_recv hKc_2 hPc_2 (ci := 10) (q0 := 0) rfl rfl, fun U hU hW => ⟨rfl, by rw [hU], by rw [hU]; exact hPc_2, va_K.moved hW.alike hKc_2, hDc_2.weaken (fun _ _ _ _ => trivial)⟩⟩ rfl rfl hl.1 rfl (lv_room (Nat.le_of_ble_eq_true rfl)) dX4_writeEdge_32 ⟨Nat.le_of_ble_eq_true rfl, Nat.le_of_ble_eq_true rfl⟩) hS (fun q _ h => hFc_2 q h) hFc_2 (fun u_2 t_2 H_2 locs_2 ht_2 hvm_2 hw_2 hB_2 hz_2 hk_2 hS_2 => ?_)
    subst hw_2
    obtain ⟨r_2_0, r_2_1, r_2_2, w_2, hP1_2, hD1_2⟩ := hB_2
    rw [ht_2] at hP1_2
    obtain ⟨hP_2, hD_2⟩ := va_join (wr := [(h0, .inr (7, oX4 (.ref h1) v_behindOpening))]) (w1 := [(h1, .inr (10, oX7 (.ref h2) r_2_0 r_2_1 v_row_there)), (h2, .inl (k0, nv_row_items, .inl r_2_2))]) hP hD [0, 1] [2] rfl rfl (by decide) (by decide) hk_2 hFc_2 hP1_2 hD1_2
    have hP_2 := hP_2.sub (ws' := [(h1, .inr (10, oX7 (.ref h2) r_2_0 r_2_1 v_row_there)), (h2, .inl (k0, nv_row_items, .inl r_2_2)), (h0, .inr (7, oX4 (.ref h1) v_behindOpening))]) [1, 2, 0] rfl
    have hD_2 := hD_2.sub (ws' := [(h1, .inr (10, oX7 (.ref h2) r_2_0 r_2_1 v_row_there)), (h2, .inl (k0, nv_row_items, .inl r_2_2)), (h0, .inr (7, oX4 (.ref h1) v_behindOpening))]) [1, 2, 0] (by decide) rfl
    clear hPc_2 hDc_2 hKc_2 hFc_2 hP1_2 hD1_2 hk_2 hz_2
    refine lv_aload_n hx hb dX4_writeEdge_35 rfl (lv_at hl 0 rfl) ?_
    refine va_get (D := (dC, dI)) (ci := 7) (v := .ref h1) (C := RX4) (T := TX4) (N := 2) hx hb ht inX4 hown hK hP_2 2 rfl rfl 0 (by decide) (ht _ tw_503) (fun _ h9 => h9) rfl dX4_writeEdge_36 ?_
    refine lv_iload_n hx hb dX4_writeEdge_39 rfl (lv_at hl 1 rfl) ?_
    refine lv_iconst (v := 2) hx hb dX4_writeEdge_40 (by decide) ?_
    have k_51 : ∀ (s0_51 : Int32) (v_row_count_51 : Int32) (v_row_over_51 : Bool) (v_row_items_51 : Nat → Int32), ∀ (H_b51 : Heap) (locs_b51 : List Loc) (ls_b51 : Array Slot), w_X4_writeEdge_51 nv_row_items Q s0_51 v_row_count_51 v_row_over_51 v_row_items_51 → va_P (dC, dI) vwCl [(h1, .inr (10, oX7 (.ref h2) v_row_count_51 v_row_over_51 v_row_there)), (h2, .inl (k0, nv_row_items, .inl v_row_items_51)), (h0, .inr (7, oX4 (.ref h1) v_behindOpening))] H_b51 → va_D A [(h1, .inr (10, oX7 (.ref h2) v_row_count_51 v_row_over_51 v_row_there)), (h2, .inl (k0, nv_row_items, .inl v_row_items_51)), (h0, .inr (7, oX4 (.ref h1) v_behindOpening))] → va_S A s.heap H_b51 locs_b51 → lv_has ls_b51 2 [] → W p l e ({ frames := 1, cells := 0, slots := 0, locals := 21 } : Room) s m ([.ref h0, .int p1]).toArray below meth c H_b51 locs_b51 0 0 QQ (F0 m 51 ls_b51 [.int s0_51, .ref h1]) := by
      intro s0_51 v_row_count_51 v_row_over_51 v_row_items_51 H_b51 locs_b51 ls_b51 w_b51 hP_b51 hD_b51 hS_b51 hl_b51
      unfold w_X4_writeEdge_51 at w_b51
      have hPc_3 := hP_b51.sub (ws' := [(h1, .inr (10, oX7 (.ref h2) v_row_count_51 v_row_over_51 v_row_there)), (h2, .inl (k0, nv_row_items, .inl v_row_items_51))]) [0, 1] rfl
      have hDc_3 := hD_b51.sub (ws' := [(h1, .inr (10, oX7 (.ref h2) v_row_count_51 v_row_over_51 v_row_there)), (h2, .inl (k0, nv_row_items, .inl v_row_items_51))]) [0, 1] (by decide) rfl
      have hKc_3 := hK.sub (tys' := [(k0, .int)]) [0] rfl
      have hFc_3 := va_free (wc := [(h1, .inr (10, oX7 (.ref h2) v_row_count_51 v_row_over_51 v_row_there)), (h2, .inl (k0, nv_row_items, .inl v_row_items_51))]) hD_b51 hS_b51 hA [0, 1] rfl
      refine va_callv (va_runV (As := [.int s0_51]) (rest := []) ⟨hx, hb, hml, hown, ht⟩ (mt_X7_add l dC dI h1 h2 k0 s0_51 v_row_count_51 v_row_over_51 v_row_there v_row_items_51 nv_row_items _ w_b51 H_b51.size) (cwV 1 ht (goodV tw_1209 tw_866 tw_867 tw_237 gw_X7_add) rfl rfl rfl (by decide +kernel) ⟨Nat.le_of_ble_eq_true rfl, Nat.le_of_ble_eq_true rfl⟩) ⟨fun a U g mk q => by obtain ⟨q0, q1, qP, qK, qD⟩ := q; exact ⟨q0, q1, qP, va_K.moved (u := U) (U := U.calling g mk a) (Vm.Alike.refl U.vm) qK, qD⟩, va_recv hKc_3 hPc_3 (ci := 10) (q0 := 0) rfl rfl, fun U hU hW => ⟨rfl, by rw [hU], by rw [hU]; exact hPc_3, va_K.moved hW.alike hKc_3, hDc_3.weaken (fun _ _ _ _ => trivial)⟩⟩ rfl rfl hl_b51.1 rfl (lv_room (Nat.le_of_ble_eq_true rfl)) dX4_writeEdge_51 ⟨Nat.le_of_ble_eq_true rfl, Nat.le_of_ble_eq_true rfl⟩) hS_b51 (fun q _ h => hFc_3 q h) hFc_3 (fun u_3 t_3 H_3 locs_3 ht_3 hvm_3 hw_3 hB_3 hz_3 hk_3 hS_3 => ?_)
      subst hw_3
      obtain ⟨r_3_0, r_3_1, r_3_2, w_3, hP1_3, hD1_3⟩ := hB_3
      rw [ht_3] at hP1_3
      obtain ⟨hP_3, hD_3⟩ := va_join (wr := [(h0, .inr (7, oX4 (.ref h1) v_behindOpening))]) (w1 := [(h1, .inr (10, oX7 (.ref h2) r_3_0 r_3_1 v_row_there)), (h2, .inl (k0, nv_row_items, .inl r_3_2))]) hP_b51 hD_b51 [0, 1] [2] rfl rfl (by decide) (by decide) hk_3 hFc_3 hP1_3 hD1_3
      have hP_3 := hP_3.sub (ws' := [(h1, .inr (10, oX7 (.ref h2) r_3_0 r_3_1 v_row_there)), (h2, .inl (k0, nv_row_items, .inl r_3_2)), (h0, .inr (7, oX4 (.ref h1) v_behindOpening))]) [1, 2, 0] rfl
      have hD_3 := hD_3.sub (ws' := [(h1, .inr (10, oX7 (.ref h2) r_3_0 r_3_1 v_row_there)), (h2, .inl (k0, nv_row_items, .inl r_3_2)), (h0, .inr (7, oX4 (.ref h1) v_behindOpening))]) [1, 2, 0] (by decide) rfl
      clear hPc_3 hDc_3 hKc_3 hFc_3 hP1_3 hD1_3 hk_3 hz_3
      exact k_54 r_3_0 r_3_1 r_3_2 _ _ _ w_3 hP_3 hD_3 hS_3 (lv_sub hl_b51 [] rfl)
    refine lv_icmp_ne (tgt := 49) hx hb dX4_writeEdge_41 (by decide) (fun c_4 => ?_) (fun c_4 => ?_)
    · refine lv_bipush (v := 66) hx hb dX4_writeEdge_49 (by decide) ?_
      exact k_51 66 r_2_0 r_2_1 r_2_2 _ _ _ (w_2.1 c_4) hP_2 hD_2 hS_2 (lv_sub hl [] rfl)
    · refine lv_bipush (v := 98) hx hb dX4_writeEdge_44 (by decide) ?_
      refine lv_goto (tgt := 51) hx hb dX4_writeEdge_46 (by decide) ?_
      exact k_51 98 r_2_0 r_2_1 r_2_2 _ _ _ (w_2.2 c_4) hP_2 hD_2 hS_2 (lv_sub hl [] rfl)
  · refine lv_aload_n hx hb dX4_writeEdge_5 rfl (lv_at hl 0 rfl) ?_
    refine va_get (D := (dC, dI)) (ci := 7) (v := .ref h1) (C := RX4) (T := TX4) (N := 2) hx hb ht inX4 hown hK hP 2 rfl rfl 0 (by decide) (ht _ tw_503) (fun _ h9 => h9) rfl dX4_writeEdge_6 ?_
    refine lv_iload_n hx hb dX4_writeEdge_9 rfl (lv_at hl 1 rfl) ?_
    have k_20 : ∀ (s0_20 : Int32) (v_row_count_20 : Int32) (v_row_over_20 : Bool) (v_row_items_20 : Nat → Int32), ∀ (H_b20 : Heap) (locs_b20 : List Loc) (ls_b20 : Array Slot), w_X4_writeEdge_20 nv_row_items Q s0_20 v_row_count_20 v_row_over_20 v_row_items_20 → va_P (dC, dI) vwCl [(h1, .inr (10, oX7 (.ref h2) v_row_count_20 v_row_over_20 v_row_there)), (h2, .inl (k0, nv_row_items, .inl v_row_items_20)), (h0, .inr (7, oX4 (.ref h1) v_behindOpening))] H_b20 → va_D A [(h1, .inr (10, oX7 (.ref h2) v_row_count_20 v_row_over_20 v_row_there)), (h2, .inl (k0, nv_row_items, .inl v_row_items_20)), (h0, .inr (7, oX4 (.ref h1) v_behindOpening))] → va_S A s.heap H_b20 locs_b20 → lv_has ls_b20 2 [] → W p l e ({ frames := 1, cells := 0, slots := 0, locals := 21 } : Room) s m ([.ref h0, .int p1]).toArray below meth c H_b20 locs_b20 0 0 QQ (F0 m 20 ls_b20 [.int s0_20, .ref h1]) := by
      intro s0_20 v_row_count_20 v_row_over_20 v_row_items_20 H_b20 locs_b20 ls_b20 w_b20 hP_b20 hD_b20 hS_b20 hl_b20
      unfold w_X4_writeEdge_20 at w_b20
      have hPc_5 := hP_b20.sub (ws' := [(h1, .inr (10, oX7 (.ref h2) v_row_count_20 v_row_over_20 v_row_there)), (h2, .inl (k0, nv_row_items, .inl v_row_items_20))]) [0, 1] rfl
      have hDc_5 := hD_b20.sub (ws' := [(h1, .inr (10, oX7 (.ref h2) v_row_count_20 v_row_over_20 v_row_there)), (h2, .inl (k0, nv_row_items, .inl v_row_items_20))]) [0, 1] (by decide) rfl
      have hKc_5 := hK.sub (tys' := [(k0, .int)]) [0] rfl
      have hFc_5 := va_free (wc := [(h1, .inr (10, oX7 (.ref h2) v_row_count_20 v_row_over_20 v_row_there)), (h2, .inl (k0, nv_row_items, .inl v_row_items_20))]) hD_b20 hS_b20 hA [0, 1] rfl
      refine va_callv (va_runV (As := [.int s0_20]) (rest := []) ⟨hx, hb, hml, hown, ht⟩ (mt_X7_add l dC dI h1 h2 k0 s0_20 v_row_count_20 v_row_over_20 v_row_there v_row_items_20 nv_row_items _ w_b20 H_b20.size) (cwV 1 ht (goodV tw_1209 tw_866 tw_867 tw_237 gw_X7_add) rfl rfl rfl (by decide +kernel) ⟨Nat.le_of_ble_eq_true rfl, Nat.le_of_ble_eq_true rfl⟩) ⟨fun a U g mk q => by obtain ⟨q0, q1, qP, qK, qD⟩ := q; exact ⟨q0, q1, qP, va_K.moved (u := U) (U := U.calling g mk a) (Vm.Alike.refl U.vm) qK, qD⟩, va_recv hKc_5 hPc_5 (ci := 10) (q0 := 0) rfl rfl, fun U hU hW => ⟨rfl, by rw [hU], by rw [hU]; exact hPc_5, va_K.moved hW.alike hKc_5, hDc_5.weaken (fun _ _ _ _ => trivial)⟩⟩ rfl rfl hl_b20.1 rfl (lv_room (Nat.le_of_ble_eq_true rfl)) dX4_writeEdge_20 ⟨Nat.le_of_ble_eq_true rfl, Nat.le_of_ble_eq_true rfl⟩) hS_b20 (fun q _ h => hFc_5 q h) hFc_5 (fun u_5 t_5 H_5 locs_5 ht_5 hvm_5 hw_5 hB_5 hz_5 hk_5 hS_5 => ?_)
      subst hw_5
      obtain ⟨r_5_0, r_5_1, r_5_2, w_5, hP1_5, hD1_5⟩ := hB_5
      rw [ht_5] at hP1_5
      obtain ⟨hP_5, hD_5⟩ := va_join (wr := [(h0, .inr (7, oX4 (.ref h1) v_behindOpening))]) (w1 := [(h1, .inr (10, oX7 (.ref h2) r_5_0 r_5_1 v_row_there)), (h2, .inl (k0, nv_row_items, .inl r_5_2))]) hP_b20 hD_b20 [0, 1] [2] rfl rfl (by decide) (by decide) hk_5 hFc_5 hP1_5 hD1_5
      have hP_5 := hP_5.sub (ws' := [(h1, .inr (10, oX7 (.ref h2) r_5_0 r_5_1 v_row_there)), (h2, .inl (k0, nv_row_items, .inl r_5_2)), (h0, .inr (7, oX4 (.ref h1) v_behindOpening))]) [1, 2, 0] rfl
      have hD_5 := hD_5.sub (ws' := [(h1, .inr (10, oX7 (.ref h2) r_5_0 r_5_1 v_row_there)), (h2, .inl (k0, nv_row_items, .inl r_5_2)), (h0, .inr (7, oX4 (.ref h1) v_behindOpening))]) [1, 2, 0] (by decide) rfl
      clear hPc_5 hDc_5 hKc_5 hFc_5 hP1_5 hD1_5 hk_5 hz_5
      refine lv_goto (tgt := 54) hx hb dX4_writeEdge_23 (by decide) ?_
      exact k_54 r_5_0 r_5_1 r_5_2 _ _ _ w_5 hP_5 hD_5 hS_5 (lv_sub hl_b20 [] rfl)
    refine lv_if_ne (tgt := 18) hx hb dX4_writeEdge_10 (by decide) (fun c_6 => ?_) (fun c_6 => ?_)
    · refine lv_bipush (v := 36) hx hb dX4_writeEdge_18 (by decide) ?_
      exact k_20 36 v_row_count v_row_over v_row_items _ _ _ ((w.2 c_1).1 c_6) hP hD hS (lv_sub hl [] rfl)
    · refine lv_bipush (v := 94) hx hb dX4_writeEdge_13 (by decide) ?_
      refine lv_goto (tgt := 20) hx hb dX4_writeEdge_15 (by decide) ?_
      exact k_20 94 v_row_count v_row_over v_row_items _ _ _ ((w.2 c_1).2 c_6) hP hD hS (lv_sub hl [] rfl)
def w_X11_isTapeSign_17 (Q : Int32 → Prop) (s0_17 : Int32) : Prop :=
  (s0_17 = 0 ∨ s0_17 = 1) ∧ Q s0_17
def w_X11_isTapeSign_16 (Q : Int32 → Prop) : Prop :=
  w_X11_isTapeSign_17 Q 0
def w_X11_isTapeSign (p0 : Int32) (Q : Int32 → Prop) : Prop :=
  ((p0 < 32) → w_X11_isTapeSign_16 Q) ∧ ((¬ p0 < 32) → ((126 < p0) → w_X11_isTapeSign_16 Q) ∧ ((¬ 126 < p0) → w_X11_isTapeSign_17 Q 1))
set_option maxHeartbeats 4000000 in
set_option maxRecDepth 100000 in
theorem mt_X11_isTapeSign (l : Launch) (dC : Nat → ClassId) (dI : Nat → Nat → Nat) (p0 : Int32) (Q : Int32 → Prop) (w : w_X11_isTapeSign p0 Q) (sz : Nat) : Met l yX11_isTapeSign (WS yX11_isTapeSign cX11_isTapeSign 1 (some (.boolean))) ({ frames := 0, cells := 0, slots := 0, locals := 0 } : Room) (va_Pc [.int p0] (fun U => U.heap.size = sz ∧ va_P (dC, dI) vwCl [] U.heap ∧ va_K (dC, dI) vwCl [] U ∧ va_D (fun _ => True) [])) (va_Qi (fun (r u : Int32) => r = u) (fun (u : Int32) (t : State) => (Q u) ∧ va_P (dC, dI) vwCl [] t.heap ∧ va_D (va_A [] sz) []) (va_A [] sz)) 0 0 (va_A [] sz) := by
  refine Met.ofW (cc := cX11_isTapeSign) (maxL := 1) (ret := (some (.boolean))) (by decide) rfl ?_
  intro p e s m args below meth c s₁ B hml hv
  obtain ⟨rfl, hsz, hP, hK, hD0⟩ := hv
  have hx := B.exec
  have hb := B.bytes
  have hr := B.returns
  have hts := atoms_spec (ws := WS yX11_isTapeSign cX11_isTapeSign 1 (some (.boolean))) B.pre
  have ht : ∀ w ∈ TW, w.before _ s = true := fun w h => hts w (List.mem_cons_of_mem _ h)
  have hown : s.vm.findClass "PatternWorkshop" = some m.cls := findClass_of_methodNamed B.named
  have hlocks := B.notSynchronized
  subst hsz
  have hD := hD0.self (sz := s.heap.size)
  generalize hAe : va_A [] s.heap.size = A at hD ⊢
  have hA : ∀ q : Nat, s.heap.size ≤ q → A q := fun q h => by rw [← hAe]; exact Or.inr h
  have hS : va_S A s.heap s.heap [] := va_S.rf
  have hP : va_P (dC, dI) vwCl [] s.heap := hP
  have hl := lv_entry ([.int p0]) (n := 1) (Nat.le_of_ble_eq_true rfl)
  rw [lg_entry_eq]
  generalize (lg_sl ([.int p0]) ++ List.replicate (1 - (lg_sl ([.int p0])).length) Slot.unset).toArray = ls at hl ⊢
  have hl : lv_has ls 1 [(0, .int p0)] := hl
  clear hD0
  obtain ⟨QQ, hQQ⟩ : ∃ QQ, QQ = MQ below (va_Qi (fun (r u : Int32) => r = u) (fun (u : Int32) (t : State) => (Q u) ∧ va_P (dC, dI) vwCl [] t.heap ∧ va_D A []) A) ([.int p0]).toArray s 0 0 A := ⟨_, rfl⟩
  show W p l e ({ frames := 0, cells := 0, slots := 0, locals := 0 } : Room) s m ([.int p0]).toArray below meth c s.heap [] 0 0 (MQ below (va_Qi (fun (r u : Int32) => r = u) (fun (u : Int32) (t : State) => (Q u) ∧ va_P (dC, dI) vwCl [] t.heap ∧ va_D A []) A) ([.int p0]).toArray s 0 0 A) (F0 m 0 ls [])
  rw [← hQQ]
  unfold w_X11_isTapeSign at w
  refine lv_iload_n hx hb dX11_isTapeSign_0 rfl (lv_at hl 0 rfl) ?_
  refine lv_bipush (v := 32) hx hb dX11_isTapeSign_1 (by decide) ?_
  have k_17 : ∀ (s0_17 : Int32), ∀ (H_b17 : Heap) (locs_b17 : List Loc) (ls_b17 : Array Slot), w_X11_isTapeSign_17 Q s0_17 → va_P (dC, dI) vwCl [] H_b17 → va_D A [] → va_S A s.heap H_b17 locs_b17 → lv_has ls_b17 1 [] → W p l e ({ frames := 0, cells := 0, slots := 0, locals := 0 } : Room) s m ([.int p0]).toArray below meth c H_b17 locs_b17 0 0 QQ (F0 m 17 ls_b17 [.int s0_17]) := by
    intro s0_17 H_b17 locs_b17 ls_b17 w_b17 hP_b17 hD_b17 hS_b17 hl_b17
    unfold w_X11_isTapeSign_17 at w_b17
    rw [hQQ]
    exact W.zret (v := s0_17) hx hb hr (or_nar w_b17.1) (fun t9 ht9 hW9 => ⟨⟨s0_17, s0_17, rfl, rfl, ⟨w_b17.2, by rw [ht9]; exact hP_b17, hD_b17⟩⟩, hS_b17.F ht9⟩) hS_b17.2.2 dX11_isTapeSign_17
  have k_16 : ∀ (H_b16 : Heap) (locs_b16 : List Loc) (ls_b16 : Array Slot), w_X11_isTapeSign_16 Q → va_P (dC, dI) vwCl [] H_b16 → va_D A [] → va_S A s.heap H_b16 locs_b16 → lv_has ls_b16 1 [] → W p l e ({ frames := 0, cells := 0, slots := 0, locals := 0 } : Room) s m ([.int p0]).toArray below meth c H_b16 locs_b16 0 0 QQ (F0 m 16 ls_b16 []) := by
    intro  H_b16 locs_b16 ls_b16 w_b16 hP_b16 hD_b16 hS_b16 hl_b16
    unfold w_X11_isTapeSign_16 at w_b16
    refine lv_iconst (v := 0) hx hb dX11_isTapeSign_16 (by decide) ?_
    exact k_17 0 _ _ _ w_b16 hP_b16 hD_b16 hS_b16 (lv_sub hl_b16 [] rfl)
  refine lv_icmp_lt (tgt := 16) hx hb dX11_isTapeSign_3 (by decide) (fun c_1 => ?_) (fun c_1 => ?_)
  · exact k_16  _ _ _ (w.1 c_1) hP hD hS (lv_sub hl [] rfl)
  · refine lv_iload_n hx hb dX11_isTapeSign_6 rfl (lv_at hl 0 rfl) ?_
    refine lv_bipush (v := 126) hx hb dX11_isTapeSign_7 (by decide) ?_
    refine lv_icmp_gt (tgt := 16) hx hb dX11_isTapeSign_9 (by decide) (fun c_2 => ?_) (fun c_2 => ?_)
    · exact k_16  _ _ _ ((w.2 c_1).1 c_2) hP hD hS (lv_sub hl [] rfl)
    · refine lv_iconst (v := 1) hx hb dX11_isTapeSign_12 (by decide) ?_
      refine lv_goto (tgt := 17) hx hb dX11_isTapeSign_13 (by decide) ?_
      exact k_17 1 _ _ _ ((w.2 c_1).2 c_2) hP hD hS (lv_sub hl [] rfl)
def w_X4_writeCode_56 (nv_row_items : Nat) (Q : Int32 → Bool → (Nat → Int32) → Prop) (K21 : Int32 → Int32 → Bool → (Nat → Int32) → Prop) (s0_56 : Int32) (l2_56 : Int32) (v_row_count_56 : Int32) (v_row_over_56 : Bool) (v_row_items_56 : Nat → Int32) : Prop :=
  w_X7_add s0_56 v_row_count_56 v_row_over_56 v_row_items_56 nv_row_items (fun r_8_0 r_8_1 r_8_2 => ∀ x_9 : Int32, x_9 = l2_56 + (-4) → K21 x_9 r_8_0 r_8_1 r_8_2)
def w_X4_writeCode_21B (p1 : Int32) (nv_row_items : Nat) (Q : Int32 → Bool → (Nat → Int32) → Prop) (K21 : Int32 → Int32 → Bool → (Nat → Int32) → Prop) (l2_21 : Int32) (v_row_count_21 : Int32) (v_row_over_21 : Bool) (v_row_items_21 : Nat → Int32) : Prop :=
  ((l2_21 < 0) → Q  v_row_count_21 v_row_over_21 v_row_items_21) ∧ ((¬ l2_21 < 0) → ∀ x_5 : Int32, x_5 = p1 >>> (l2_21 &&& 31) → ∀ x_6 : Int32, x_6 = x_5 &&& (15 : Int32) → ((10 ≤ x_6) → ∀ x_11 : Int32, x_11 = (97 : Int32) + x_6 → ∀ x_12 : Int32, x_12 = x_11 - (10 : Int32) → w_X4_writeCode_56 nv_row_items Q K21 x_12 l2_21 v_row_count_21 v_row_over_21 v_row_items_21) ∧ ((¬ 10 ≤ x_6) → ∀ x_14 : Int32, x_14 = (48 : Int32) + x_6 → w_X4_writeCode_56 nv_row_items Q K21 x_14 l2_21 v_row_count_21 v_row_over_21 v_row_items_21))
def w_X4_writeCode_21 (p1 : Int32) (nv_row_items : Nat) (Q : Int32 → Bool → (Nat → Int32) → Prop) : Nat → Int32 → Int32 → Bool → (Nat → Int32) → Prop
  | 0, _, _, _, _ => False
  | n9 + 1, l2_21, v_row_count_21, v_row_over_21, v_row_items_21 => w_X4_writeCode_21B p1 nv_row_items Q (w_X4_writeCode_21 p1 nv_row_items Q n9) l2_21 v_row_count_21 v_row_over_21 v_row_items_21
def w_X4_writeCode (p1 : Int32) (v_row_count : Int32) (v_row_over : Bool) (v_row_items : Nat → Int32) (nv_row_items : Nat) (Q : Int32 → Bool → (Nat → Int32) → Prop) : Prop :=
  w_X7_add 92 v_row_count v_row_over v_row_items nv_row_items (fun r_1_0 r_1_1 r_1_2 => w_X7_add 120 r_1_0 r_1_1 r_1_2 nv_row_items (fun r_2_0 r_2_1 r_2_2 => ∃ k9 : Nat, w_X4_writeCode_21 p1 nv_row_items Q k9 12 r_2_0 r_2_1 r_2_2))
set_option maxHeartbeats 4000000 in
set_option maxRecDepth 100000 in
theorem mt_X4_writeCode (l : Launch) (dC : Nat → ClassId) (dI : Nat → Nat → Nat) (h0 h1 h2 : Nat) (k0 : ClassId) (p1 : Int32) (v_row_count : Int32) (v_row_over : Bool) (v_row_there : Bool) (v_row_items : Nat → Int32) (nv_row_items : Nat) (v_behindOpening : Int32) (Q : Int32 → Bool → (Nat → Int32) → Prop) (w : w_X4_writeCode p1 v_row_count v_row_over v_row_items nv_row_items Q) (sz : Nat) : Met l yX4_writeCode (WS yX4_writeCode cX4_writeCode 4 none) ({ frames := 1, cells := 0, slots := 0, locals := 21 } : Room) (va_Pc [.ref h0, .int p1] (fun U => U.heap.size = sz ∧ va_P (dC, dI) vwCl [(h1, .inr (10, oX7 (.ref h2) v_row_count v_row_over v_row_there)), (h2, .inl (k0, nv_row_items, .inl v_row_items)), (h0, .inr (7, oX4 (.ref h1) v_behindOpening))] U.heap ∧ va_K (dC, dI) vwCl [(k0, .int)] U ∧ va_D (fun _ => True) [(h1, .inr (10, oX7 (.ref h2) v_row_count v_row_over v_row_there)), (h2, .inl (k0, nv_row_items, .inl v_row_items)), (h0, .inr (7, oX4 (.ref h1) v_behindOpening))])) (va_Qv (fun (u : Nat) => u = 0) (fun (_ : Nat) (t : State) => ∃ (ov_row_count : Int32), ∃ (ov_row_over : Bool), ∃ (ov_row_items : Nat → Int32), (Q ov_row_count ov_row_over ov_row_items) ∧ va_P (dC, dI) vwCl [(h1, .inr (10, oX7 (.ref h2) ov_row_count ov_row_over v_row_there)), (h2, .inl (k0, nv_row_items, .inl ov_row_items)), (h0, .inr (7, oX4 (.ref h1) v_behindOpening))] t.heap ∧ va_D (va_A [(h1, .inr (10, oX7 (.ref h2) v_row_count v_row_over v_row_there)), (h2, .inl (k0, nv_row_items, .inl v_row_items)), (h0, .inr (7, oX4 (.ref h1) v_behindOpening))] sz) [(h1, .inr (10, oX7 (.ref h2) ov_row_count ov_row_over v_row_there)), (h2, .inl (k0, nv_row_items, .inl ov_row_items)), (h0, .inr (7, oX4 (.ref h1) v_behindOpening))]) (va_A [(h1, .inr (10, oX7 (.ref h2) v_row_count v_row_over v_row_there)), (h2, .inl (k0, nv_row_items, .inl v_row_items)), (h0, .inr (7, oX4 (.ref h1) v_behindOpening))] sz)) 0 0 (va_A [(h1, .inr (10, oX7 (.ref h2) v_row_count v_row_over v_row_there)), (h2, .inl (k0, nv_row_items, .inl v_row_items)), (h0, .inr (7, oX4 (.ref h1) v_behindOpening))] sz) := by
  refine Met.ofW (cc := cX4_writeCode) (maxL := 4) (ret := none) (by decide) rfl ?_
  intro p e s m args below meth c s₁ B hml hv
  obtain ⟨rfl, hsz, hP, hK, hD0⟩ := hv
  have hx := B.exec
  have hb := B.bytes
  have hr := B.returns
  have hts := atoms_spec (ws := WS yX4_writeCode cX4_writeCode 4 none) B.pre
  have ht : ∀ w ∈ TW, w.before _ s = true := fun w h => hts w (List.mem_cons_of_mem _ h)
  have hown : s.vm.findClass "PatternWorkshop$Printer" = some m.cls := findClass_of_methodNamed B.named
  have hlocks := B.notSynchronized
  subst hsz
  have hD := hD0.self (sz := s.heap.size)
  generalize hAe : va_A [(h1, .inr (10, oX7 (.ref h2) v_row_count v_row_over v_row_there)), (h2, .inl (k0, nv_row_items, .inl v_row_items)), (h0, .inr (7, oX4 (.ref h1) v_behindOpening))] s.heap.size = A at hD ⊢
  have hA : ∀ q : Nat, s.heap.size ≤ q → A q := fun q h => by rw [← hAe]; exact Or.inr h
  have hS : va_S A s.heap s.heap [] := va_S.rf
  have hP : va_P (dC, dI) vwCl [(h1, .inr (10, oX7 (.ref h2) v_row_count v_row_over v_row_there)), (h2, .inl (k0, nv_row_items, .inl v_row_items)), (h0, .inr (7, oX4 (.ref h1) v_behindOpening))] s.heap := hP
  have hl := lv_entry ([.ref h0, .int p1]) (n := 4) (Nat.le_of_ble_eq_true rfl)
  rw [lg_entry_eq]
  generalize (lg_sl ([.ref h0, .int p1]) ++ List.replicate (4 - (lg_sl ([.ref h0, .int p1])).length) Slot.unset).toArray = ls at hl ⊢
  have hl : lv_has ls 4 [(0, .ref h0), (1, .int p1)] := hl
  clear hD0
  obtain ⟨QQ, hQQ⟩ : ∃ QQ, QQ = MQ below (va_Qv (fun (u : Nat) => u = 0) (fun (_ : Nat) (t : State) => ∃ (ov_row_count : Int32), ∃ (ov_row_over : Bool), ∃ (ov_row_items : Nat → Int32), (Q ov_row_count ov_row_over ov_row_items) ∧ va_P (dC, dI) vwCl [(h1, .inr (10, oX7 (.ref h2) ov_row_count ov_row_over v_row_there)), (h2, .inl (k0, nv_row_items, .inl ov_row_items)), (h0, .inr (7, oX4 (.ref h1) v_behindOpening))] t.heap ∧ va_D A [(h1, .inr (10, oX7 (.ref h2) ov_row_count ov_row_over v_row_there)), (h2, .inl (k0, nv_row_items, .inl ov_row_items)), (h0, .inr (7, oX4 (.ref h1) v_behindOpening))]) A) ([.ref h0, .int p1]).toArray s 0 0 A := ⟨_, rfl⟩
  show W p l e ({ frames := 1, cells := 0, slots := 0, locals := 21 } : Room) s m ([.ref h0, .int p1]).toArray below meth c s.heap [] 0 0 (MQ below (va_Qv (fun (u : Nat) => u = 0) (fun (_ : Nat) (t : State) => ∃ (ov_row_count : Int32), ∃ (ov_row_over : Bool), ∃ (ov_row_items : Nat → Int32), (Q ov_row_count ov_row_over ov_row_items) ∧ va_P (dC, dI) vwCl [(h1, .inr (10, oX7 (.ref h2) ov_row_count ov_row_over v_row_there)), (h2, .inl (k0, nv_row_items, .inl ov_row_items)), (h0, .inr (7, oX4 (.ref h1) v_behindOpening))] t.heap ∧ va_D A [(h1, .inr (10, oX7 (.ref h2) ov_row_count ov_row_over v_row_there)), (h2, .inl (k0, nv_row_items, .inl ov_row_items)), (h0, .inr (7, oX4 (.ref h1) v_behindOpening))]) A) ([.ref h0, .int p1]).toArray s 0 0 A) (F0 m 0 ls [])
  rw [← hQQ]
  unfold w_X4_writeCode at w
  refine lv_aload_n hx hb dX4_writeCode_0 rfl (lv_at hl 0 rfl) ?_
  refine va_get (D := (dC, dI)) (ci := 7) (v := .ref h1) (C := RX4) (T := TX4) (N := 2) hx hb ht inX4 hown hK hP 2 rfl rfl 0 (by decide) (ht _ tw_503) (fun _ h9 => h9) rfl dX4_writeCode_1 ?_
  refine lv_bipush (v := 92) hx hb dX4_writeCode_4 (by decide) ?_
  have hPc_1 := hP.sub (ws' := [(h1, .inr (10, oX7 (.ref h2) v_row_count v_row_over v_row_there)), (h2, .inl (k0, nv_row_items, .inl v_row_items))]) [0, 1] rfl
  have hDc_1 := hD.sub (ws' := [(h1, .inr (10, oX7 (.ref h2) v_row_count v_row_over v_row_there)), (h2, .inl (k0, nv_row_items, .inl v_row_items))]) [0, 1] (by decide) rfl
  have hKc_1 := hK.sub (tys' := [(k0, .int)]) [0] rfl
  have hFc_1 := va_free (wc := [(h1, .inr (10, oX7 (.ref h2) v_row_count v_row_over v_row_there)), (h2, .inl (k0, nv_row_items, .inl v_row_items))]) hD hS hA [0, 1] rfl
  refine va_callv (va_runV (As := [.int 92]) (rest := []) ⟨hx, hb, hml, hown, ht⟩ (mt_X7_add l dC dI h1 h2 k0 92 v_row_count v_row_over v_row_there v_row_items nv_row_items _ w s.heap.size) (cwV 1 ht (goodV tw_1209 tw_866 tw_867 tw_237 gw_X7_add) rfl rfl rfl (by decide +kernel) ⟨Nat.le_of_ble_eq_true rfl, Nat.le_of_ble_eq_true rfl⟩) ⟨fun a U g mk q => by obtain ⟨q0, q1, qP, qK, qD⟩ := q; exact ⟨q0, q1, qP, va_K.moved (u := U) (U := U.calling g mk a) (Vm.Alike.refl U.vm) qK, qD⟩, va_recv hKc_1 hPc_1 (ci := 10) (q0 := 0) rfl rfl, fun U hU hW => ⟨rfl, by rw [hU], by rw [hU]; exact hPc_1, va_K.moved hW.alike hKc_1, hDc_1.weaken (fun _ _ _ _ => trivial)⟩⟩ rfl rfl hl.1 rfl (lv_room (Nat.le_of_ble_eq_true rfl)) dX4_writeCode_6 ⟨Nat.le_of_ble_eq_true rfl, Nat.le_of_ble_eq_true rfl⟩) hS (fun q _ h => hFc_1 q h) hFc_1 (fun u_1 t_1 H_1 locs_1 ht_1 hvm_1 hw_1 hB_1 hz_1 hk_1 hS_1 => ?_)
  subst hw_1
  obtain ⟨r_1_0, r_1_1, r_1_2, w_1, hP1_1, hD1_1⟩ := hB_1
  rw [ht_1] at hP1_1
  obtain ⟨hP_1, hD_1⟩ := va_join (wr := [(h0, .inr (7, oX4 (.ref h1) v_behindOpening))]) (w1 := [(h1, .inr (10, oX7 (.ref h2) r_1_0 r_1_1 v_row_there)), (h2, .inl (k0, nv_row_items, .inl r_1_2))]) hP hD [0, 1] [2] rfl rfl (by decide) (by decide) hk_1 hFc_1 hP1_1 hD1_1
  have hP_1 := hP_1.sub (ws' := [(h1, .inr (10, oX7 (.ref h2) r_1_0 r_1_1 v_row_there)), (h2, .inl (k0, nv_row_items, .inl r_1_2)), (h0, .inr (7, oX4 (.ref h1) v_behindOpening))]) [1, 2, 0] rfl
  have hD_1 := hD_1.sub (ws' := [(h1, .inr (10, oX7 (.ref h2) r_1_0 r_1_1 v_row_there)), (h2, .inl (k0, nv_row_items, .inl r_1_2)), (h0, .inr (7, oX4 (.ref h1) v_behindOpening))]) [1, 2, 0] (by decide) rfl
  clear hPc_1 hDc_1 hKc_1 hFc_1 hP1_1 hD1_1 hk_1 hz_1
  refine lv_aload_n hx hb dX4_writeCode_9 rfl (lv_at hl 0 rfl) ?_
  refine va_get (D := (dC, dI)) (ci := 7) (v := .ref h1) (C := RX4) (T := TX4) (N := 2) hx hb ht inX4 hown hK hP_1 2 rfl rfl 0 (by decide) (ht _ tw_503) (fun _ h9 => h9) rfl dX4_writeCode_10 ?_
  refine lv_bipush (v := 120) hx hb dX4_writeCode_13 (by decide) ?_
  have hPc_2 := hP_1.sub (ws' := [(h1, .inr (10, oX7 (.ref h2) r_1_0 r_1_1 v_row_there)), (h2, .inl (k0, nv_row_items, .inl r_1_2))]) [0, 1] rfl
  have hDc_2 := hD_1.sub (ws' := [(h1, .inr (10, oX7 (.ref h2) r_1_0 r_1_1 v_row_there)), (h2, .inl (k0, nv_row_items, .inl r_1_2))]) [0, 1] (by decide) rfl
  have hKc_2 := hK.sub (tys' := [(k0, .int)]) [0] rfl
  have hFc_2 := va_free (wc := [(h1, .inr (10, oX7 (.ref h2) r_1_0 r_1_1 v_row_there)), (h2, .inl (k0, nv_row_items, .inl r_1_2))]) hD_1 hS_1 hA [0, 1] rfl
  refine va_callv (va_runV (As := [.int 120]) (rest := []) ⟨hx, hb, hml, hown, ht⟩ (mt_X7_add l dC dI h1 h2 k0 120 r_1_0 r_1_1 v_row_there r_1_2 nv_row_items _ w_1 H_1.size) (cwV 1 ht (goodV tw_1209 tw_866 tw_867 tw_237 gw_X7_add) rfl rfl rfl (by decide +kernel) ⟨Nat.le_of_ble_eq_true rfl, Nat.le_of_ble_eq_true rfl⟩) ⟨fun a U g mk q => by obtain ⟨q0, q1, qP, qK, qD⟩ := q; exact ⟨q0, q1, qP, va_K.moved (u := U) (U := U.calling g mk a) (Vm.Alike.refl U.vm) qK, qD⟩, va_recv hKc_2 hPc_2 (ci := 10) (q0 := 0) rfl rfl, fun U hU hW => ⟨rfl, by rw [hU], by rw [hU]; exact hPc_2, va_K.moved hW.alike hKc_2, hDc_2.weaken (fun _ _ _ _ => trivial)⟩⟩ rfl rfl hl.1 rfl (lv_room (Nat.le_of_ble_eq_true rfl)) dX4_writeCode_15 ⟨Nat.le_of_ble_eq_true rfl, Nat.le_of_ble_eq_true rfl⟩) hS_1 (fun q _ h => hFc_2 q h) hFc_2 (fun u_2 t_2 H_2 locs_2 ht_2 hvm_2 hw_2 hB_2 hz_2 hk_2 hS_2 => ?_)
  subst hw_2
  obtain ⟨r_2_0, r_2_1, r_2_2, w_2, hP1_2, hD1_2⟩ := hB_2
  rw [ht_2] at hP1_2
  obtain ⟨hP_2, hD_2⟩ := va_join (wr := [(h0, .inr (7, oX4 (.ref h1) v_behindOpening))]) (w1 := [(h1, .inr (10, oX7 (.ref h2) r_2_0 r_2_1 v_row_there)), (h2, .inl (k0, nv_row_items, .inl r_2_2))]) hP_1 hD_1 [0, 1] [2] rfl rfl (by decide) (by decide) hk_2 hFc_2 hP1_2 hD1_2
  have hP_2 := hP_2.sub (ws' := [(h1, .inr (10, oX7 (.ref h2) r_2_0 r_2_1 v_row_there)), (h2, .inl (k0, nv_row_items, .inl r_2_2)), (h0, .inr (7, oX4 (.ref h1) v_behindOpening))]) [1, 2, 0] rfl
  have hD_2 := hD_2.sub (ws' := [(h1, .inr (10, oX7 (.ref h2) r_2_0 r_2_1 v_row_there)), (h2, .inl (k0, nv_row_items, .inl r_2_2)), (h0, .inr (7, oX4 (.ref h1) v_behindOpening))]) [1, 2, 0] (by decide) rfl
  clear hPc_2 hDc_2 hKc_2 hFc_2 hP1_2 hD1_2 hk_2 hz_2
  refine lv_bipush (v := 12) hx hb dX4_writeCode_18 (by decide) ?_
  refine lv_istore_n (lv' := [(2, .int 12), (0, .ref h0), (1, .int p1)]) hx hb dX4_writeCode_20 rfl hl (by decide) rfl (fun ls_3 hl_3 => ?_)
  clear hl
  have k_21 : ∀ n_21 : Nat, ∀ (l2_21 : Int32) (v_row_count_21 : Int32) (v_row_over_21 : Bool) (v_row_items_21 : Nat → Int32), ∀ (H_b21 : Heap) (locs_b21 : List Loc) (ls_b21 : Array Slot), w_X4_writeCode_21 p1 nv_row_items Q n_21 l2_21 v_row_count_21 v_row_over_21 v_row_items_21 → va_P (dC, dI) vwCl [(h1, .inr (10, oX7 (.ref h2) v_row_count_21 v_row_over_21 v_row_there)), (h2, .inl (k0, nv_row_items, .inl v_row_items_21)), (h0, .inr (7, oX4 (.ref h1) v_behindOpening))] H_b21 → va_D A [(h1, .inr (10, oX7 (.ref h2) v_row_count_21 v_row_over_21 v_row_there)), (h2, .inl (k0, nv_row_items, .inl v_row_items_21)), (h0, .inr (7, oX4 (.ref h1) v_behindOpening))] → va_S A s.heap H_b21 locs_b21 → lv_has ls_b21 4 [(0, .ref h0), (1, .int p1), (2, .int l2_21)] → W p l e ({ frames := 1, cells := 0, slots := 0, locals := 21 } : Room) s m ([.ref h0, .int p1]).toArray below meth c H_b21 locs_b21 0 0 QQ (F0 m 21 ls_b21 []) := by
    intro n_21
    induction n_21 with
    | zero =>
      intro l2_21 v_row_count_21 v_row_over_21 v_row_items_21 H_b21 locs_b21 ls_b21 w_b21 hP_b21 hD_b21 hS_b21 hl_b21
      exact False.elim (by unfold w_X4_writeCode_21 at w_b21; exact w_b21)
    | succ n_21 ih_21 =>
      intro l2_21 v_row_count_21 v_row_over_21 v_row_items_21 H_b21 locs_b21 ls_b21 w_b21 hP_b21 hD_b21 hS_b21 hl_b21
      unfold w_X4_writeCode_21 at w_b21
      unfold w_X4_writeCode_21B at w_b21
      refine lv_iload_n hx hb dX4_writeCode_21 rfl (lv_at hl_b21 2 rfl) ?_
      refine lv_if_lt (tgt := 65) hx hb dX4_writeCode_22 (by decide) (fun c_4 => ?_) (fun c_4 => ?_)
      · rw [hQQ]
        exact W.vret hx hb hr (fun t9 ht9 hW9 => ⟨⟨0, rfl, rfl, ⟨v_row_count_21, v_row_over_21, v_row_items_21, w_b21.1 c_4, by rw [ht9]; exact hP_b21, hD_b21⟩⟩, hS_b21.F ht9⟩) hS_b21.2.2 dX4_writeCode_65
      · refine lv_iload_n hx hb dX4_writeCode_25 rfl (lv_at hl_b21 1 rfl) ?_
        refine lv_iload_n hx hb dX4_writeCode_26 rfl (lv_at hl_b21 2 rfl) ?_
        refine lv_ishr hx hb dX4_writeCode_27 ?_
        refine lv_topi (fun x_5 ex_5 => ?_)
        have ex_5 : x_5 = p1 >>> (l2_21 &&& 31) := ex_5
        refine lv_bipush (v := 15) hx hb dX4_writeCode_28 (by decide) ?_
        refine lv_iand hx hb dX4_writeCode_30 ?_
        refine lv_topi (fun x_6 ex_6 => ?_)
        have ex_6 : x_6 = x_5 &&& (15 : Int32) := ex_6
        refine lv_istore_n (lv' := [(3, .int x_6), (0, .ref h0), (1, .int p1), (2, .int l2_21)]) hx hb dX4_writeCode_31 rfl hl_b21 (by decide) rfl (fun ls_7 hl_7 => ?_)
        clear hl_b21
        refine lv_aload_n hx hb dX4_writeCode_32 rfl (lv_at hl_7 1 rfl) ?_
        refine va_get (D := (dC, dI)) (ci := 7) (v := .ref h1) (C := RX4) (T := TX4) (N := 2) hx hb ht inX4 hown hK hP_b21 2 rfl rfl 0 (by decide) (ht _ tw_503) (fun _ h9 => h9) rfl dX4_writeCode_33 ?_
        refine lv_iload_n hx hb dX4_writeCode_36 rfl (lv_at hl_7 0 rfl) ?_
        refine lv_bipush (v := 10) hx hb dX4_writeCode_37 (by decide) ?_
        have k_56 : ∀ (s0_56 : Int32) (l2_56 : Int32) (v_row_count_56 : Int32) (v_row_over_56 : Bool) (v_row_items_56 : Nat → Int32), ∀ (H_b56 : Heap) (locs_b56 : List Loc) (ls_b56 : Array Slot), w_X4_writeCode_56 nv_row_items Q (w_X4_writeCode_21 p1 nv_row_items Q n_21) s0_56 l2_56 v_row_count_56 v_row_over_56 v_row_items_56 → va_P (dC, dI) vwCl [(h1, .inr (10, oX7 (.ref h2) v_row_count_56 v_row_over_56 v_row_there)), (h2, .inl (k0, nv_row_items, .inl v_row_items_56)), (h0, .inr (7, oX4 (.ref h1) v_behindOpening))] H_b56 → va_D A [(h1, .inr (10, oX7 (.ref h2) v_row_count_56 v_row_over_56 v_row_there)), (h2, .inl (k0, nv_row_items, .inl v_row_items_56)), (h0, .inr (7, oX4 (.ref h1) v_behindOpening))] → va_S A s.heap H_b56 locs_b56 → lv_has ls_b56 4 [(0, .ref h0), (1, .int p1), (2, .int l2_56)] → W p l e ({ frames := 1, cells := 0, slots := 0, locals := 21 } : Room) s m ([.ref h0, .int p1]).toArray below meth c H_b56 locs_b56 0 0 QQ (F0 m 56 ls_b56 [.int s0_56, .ref h1]) := by
          intro s0_56 l2_56 v_row_count_56 v_row_over_56 v_row_items_56 H_b56 locs_b56 ls_b56 w_b56 hP_b56 hD_b56 hS_b56 hl_b56
          unfold w_X4_writeCode_56 at w_b56
          have hPc_8 := hP_b56.sub (ws' := [(h1, .inr (10, oX7 (.ref h2) v_row_count_56 v_row_over_56 v_row_there)), (h2, .inl (k0, nv_row_items, .inl v_row_items_56))]) [0, 1] rfl
          have hDc_8 := hD_b56.sub (ws' := [(h1, .inr (10, oX7 (.ref h2) v_row_count_56 v_row_over_56 v_row_there)), (h2, .inl (k0, nv_row_items, .inl v_row_items_56))]) [0, 1] (by decide) rfl
          have hKc_8 := hK.sub (tys' := [(k0, .int)]) [0] rfl
          have hFc_8 := va_free (wc := [(h1, .inr (10, oX7 (.ref h2) v_row_count_56 v_row_over_56 v_row_there)), (h2, .inl (k0, nv_row_items, .inl v_row_items_56))]) hD_b56 hS_b56 hA [0, 1] rfl
          refine va_callv (va_runV (As := [.int s0_56]) (rest := []) ⟨hx, hb, hml, hown, ht⟩ (mt_X7_add l dC dI h1 h2 k0 s0_56 v_row_count_56 v_row_over_56 v_row_there v_row_items_56 nv_row_items _ w_b56 H_b56.size) (cwV 1 ht (goodV tw_1209 tw_866 tw_867 tw_237 gw_X7_add) rfl rfl rfl (by decide +kernel) ⟨Nat.le_of_ble_eq_true rfl, Nat.le_of_ble_eq_true rfl⟩) ⟨fun a U g mk q => by obtain ⟨q0, q1, qP, qK, qD⟩ := q; exact ⟨q0, q1, qP, va_K.moved (u := U) (U := U.calling g mk a) (Vm.Alike.refl U.vm) qK, qD⟩, va_recv hKc_8 hPc_8 (ci := 10) (q0 := 0) rfl rfl, fun U hU hW => ⟨rfl, by rw [hU], by rw [hU]; exact hPc_8, va_K.moved hW.alike hKc_8, hDc_8.weaken (fun _ _ _ _ => trivial)⟩⟩ rfl rfl hl_b56.1 rfl (lv_room (Nat.le_of_ble_eq_true rfl)) dX4_writeCode_56 ⟨Nat.le_of_ble_eq_true rfl, Nat.le_of_ble_eq_true rfl⟩) hS_b56 (fun q _ h => hFc_8 q h) hFc_8 (fun u_8 t_8 H_8 locs_8 ht_8 hvm_8 hw_8 hB_8 hz_8 hk_8 hS_8 => ?_)
          subst hw_8
          obtain ⟨r_8_0, r_8_1, r_8_2, w_8, hP1_8, hD1_8⟩ := hB_8
          rw [ht_8] at hP1_8
          obtain ⟨hP_8, hD_8⟩ := va_join (wr := [(h0, .inr (7, oX4 (.ref h1) v_behindOpening))]) (w1 := [(h1, .inr (10, oX7 (.ref h2) r_8_0 r_8_1 v_row_there)), (h2, .inl (k0, nv_row_items, .inl r_8_2))]) hP_b56 hD_b56 [0, 1] [2] rfl rfl (by decide) (by decide) hk_8 hFc_8 hP1_8 hD1_8
          have hP_8 := hP_8.sub (ws' := [(h1, .inr (10, oX7 (.ref h2) r_8_0 r_8_1 v_row_there)), (h2, .inl (k0, nv_row_items, .inl r_8_2)), (h0, .inr (7, oX4 (.ref h1) v_behindOpening))]) [1, 2, 0] rfl
          have hD_8 := hD_8.sub (ws' := [(h1, .inr (10, oX7 (.ref h2) r_8_0 r_8_1 v_row_there)), (h2, .inl (k0, nv_row_items, .inl r_8_2)), (h0, .inr (7, oX4 (.ref h1) v_behindOpening))]) [1, 2, 0] (by decide) rfl
          clear hPc_8 hDc_8 hKc_8 hFc_8 hP1_8 hD1_8 hk_8 hz_8
          obtain ⟨x_9, ex_9⟩ : ∃ y : Int32, y = l2_56 + (-4) := ⟨_, rfl⟩
          refine lv_iinc (v := x_9) (lv' := [(2, .int x_9), (0, .ref h0), (1, .int p1)]) hx hb dX4_writeCode_59 hl_b56 (k := 2) rfl ex_9.symm (by decide) rfl (fun ls_9 hl_9 => ?_)
          refine lv_goto (tgt := 21) hx hb dX4_writeCode_62 (by decide) ?_
          exact ih_21 x_9 r_8_0 r_8_1 r_8_2 _ _ _ (w_8 x_9 ex_9) hP_8 hD_8 hS_8 (lv_sub hl_9 [1, 2, 0] rfl)
        refine lv_icmp_ge (tgt := 49) hx hb dX4_writeCode_39 (by decide) (fun c_10 => ?_) (fun c_10 => ?_)
        · refine lv_bipush (v := 97) hx hb dX4_writeCode_49 (by decide) ?_
          refine lv_iload_n hx hb dX4_writeCode_51 rfl (lv_at hl_7 0 rfl) ?_
          refine lv_iadd hx hb dX4_writeCode_52 ?_
          refine lv_topi (fun x_11 ex_11 => ?_)
          have ex_11 : x_11 = (97 : Int32) + x_6 := ex_11
          refine lv_bipush (v := 10) hx hb dX4_writeCode_53 (by decide) ?_
          refine lv_isub hx hb dX4_writeCode_55 ?_
          refine lv_topi (fun x_12 ex_12 => ?_)
          have ex_12 : x_12 = x_11 - (10 : Int32) := ex_12
          have w_13 := (((w_b21.2 c_4 x_5 ex_5 x_6 ex_6).1 c_10) x_11 ex_11) x_12 ex_12
          exact k_56 x_12 l2_21 v_row_count_21 v_row_over_21 v_row_items_21 _ _ _ w_13 hP_b21 hD_b21 hS_b21 (lv_sub hl_7 [1, 2, 3] rfl)
        · refine lv_bipush (v := 48) hx hb dX4_writeCode_42 (by decide) ?_
          refine lv_iload_n hx hb dX4_writeCode_44 rfl (lv_at hl_7 0 rfl) ?_
          refine lv_iadd hx hb dX4_writeCode_45 ?_
          refine lv_topi (fun x_14 ex_14 => ?_)
          have ex_14 : x_14 = (48 : Int32) + x_6 := ex_14
          refine lv_goto (tgt := 56) hx hb dX4_writeCode_46 (by decide) ?_
          have w_15 := ((w_b21.2 c_4 x_5 ex_5 x_6 ex_6).2 c_10) x_14 ex_14
          exact k_56 x_14 l2_21 v_row_count_21 v_row_over_21 v_row_items_21 _ _ _ w_15 hP_b21 hD_b21 hS_b21 (lv_sub hl_7 [1, 2, 3] rfl)
  obtain ⟨n_16, w_16⟩ := w_2
  exact k_21 n_16 12 r_2_0 r_2_1 r_2_2 _ _ _ w_16 hP_2 hD_2 hS_2 (lv_sub hl_3 [1, 2, 0] rfl)
def w_X4_writeMember_52 (p1 : Int32) (nv_row_items : Nat) (Q : Int32 → Bool → (Nat → Int32) → Prop) (v_row_count_52 : Int32) (v_row_over_52 : Bool) (v_row_items_52 : Nat → Int32) : Prop :=
  w_X7_add p1 v_row_count_52 v_row_over_52 v_row_items_52 nv_row_items (fun r_3_0 r_3_1 r_3_2 => Q  r_3_0 r_3_1 r_3_2)
def w_X4_writeMember_43 (p1 : Int32) (nv_row_items : Nat) (Q : Int32 → Bool → (Nat → Int32) → Prop) (v_row_count_43 : Int32) (v_row_over_43 : Bool) (v_row_items_43 : Nat → Int32) : Prop :=
  w_X7_add 92 v_row_count_43 v_row_over_43 v_row_items_43 nv_row_items (fun r_4_0 r_4_1 r_4_2 => w_X4_writeMember_52 p1 nv_row_items Q r_4_0 r_4_1 r_4_2)
def w_X4_writeMember (p1 : Int32) (v_row_count : Int32) (v_row_over : Bool) (v_row_items : Nat → Int32) (nv_row_items : Nat) (Q : Int32 → Bool → (Nat → Int32) → Prop) : Prop :=
  w_X11_isTapeSign p1 (fun r_1 => ((¬ r_1 = 0) → ((p1 = 91) → w_X4_writeMember_43 p1 nv_row_items Q v_row_count v_row_over v_row_items) ∧ ((¬ p1 = 91) → ((p1 = 93) → w_X4_writeMember_43 p1 nv_row_items Q v_row_count v_row_over v_row_items) ∧ ((¬ p1 = 93) → ((p1 = 94) → w_X4_writeMember_43 p1 nv_row_items Q v_row_count v_row_over v_row_items) ∧ ((¬ p1 = 94) → ((p1 = 45) → w_X4_writeMember_43 p1 nv_row_items Q v_row_count v_row_over v_row_items) ∧ ((¬ p1 = 45) → ((¬ p1 = 92) → w_X4_writeMember_52 p1 nv_row_items Q v_row_count v_row_over v_row_items) ∧ ((p1 = 92) → w_X4_writeMember_43 p1 nv_row_items Q v_row_count v_row_over v_row_items)))))) ∧ ((r_1 = 0) → w_X4_writeCode p1 v_row_count v_row_over v_row_items nv_row_items (fun r_12_0 r_12_1 r_12_2 => Q  r_12_0 r_12_1 r_12_2)))
set_option maxHeartbeats 4000000 in
set_option maxRecDepth 100000 in
theorem mt_X4_writeMember (l : Launch) (dC : Nat → ClassId) (dI : Nat → Nat → Nat) (h0 h1 h2 : Nat) (k0 : ClassId) (p1 : Int32) (v_row_count : Int32) (v_row_over : Bool) (v_row_there : Bool) (v_row_items : Nat → Int32) (nv_row_items : Nat) (v_behindOpening : Int32) (Q : Int32 → Bool → (Nat → Int32) → Prop) (w : w_X4_writeMember p1 v_row_count v_row_over v_row_items nv_row_items Q) (sz : Nat) : Met l yX4_writeMember (WS yX4_writeMember cX4_writeMember 2 none) ({ frames := 2, cells := 0, slots := 0, locals := 44 } : Room) (va_Pc [.ref h0, .int p1] (fun U => U.heap.size = sz ∧ va_P (dC, dI) vwCl [(h1, .inr (10, oX7 (.ref h2) v_row_count v_row_over v_row_there)), (h2, .inl (k0, nv_row_items, .inl v_row_items)), (h0, .inr (7, oX4 (.ref h1) v_behindOpening))] U.heap ∧ va_K (dC, dI) vwCl [(k0, .int)] U ∧ va_D (fun _ => True) [(h1, .inr (10, oX7 (.ref h2) v_row_count v_row_over v_row_there)), (h2, .inl (k0, nv_row_items, .inl v_row_items)), (h0, .inr (7, oX4 (.ref h1) v_behindOpening))] ∧ EX U)) (va_Qv (fun (u : Nat) => u = 0) (fun (_ : Nat) (t : State) => ∃ (ov_row_count : Int32), ∃ (ov_row_over : Bool), ∃ (ov_row_items : Nat → Int32), (Q ov_row_count ov_row_over ov_row_items) ∧ va_P (dC, dI) vwCl [(h1, .inr (10, oX7 (.ref h2) ov_row_count ov_row_over v_row_there)), (h2, .inl (k0, nv_row_items, .inl ov_row_items)), (h0, .inr (7, oX4 (.ref h1) v_behindOpening))] t.heap ∧ va_D (va_A [(h1, .inr (10, oX7 (.ref h2) v_row_count v_row_over v_row_there)), (h2, .inl (k0, nv_row_items, .inl v_row_items)), (h0, .inr (7, oX4 (.ref h1) v_behindOpening))] sz) [(h1, .inr (10, oX7 (.ref h2) ov_row_count ov_row_over v_row_there)), (h2, .inl (k0, nv_row_items, .inl ov_row_items)), (h0, .inr (7, oX4 (.ref h1) v_behindOpening))]) (va_A [(h1, .inr (10, oX7 (.ref h2) v_row_count v_row_over v_row_there)), (h2, .inl (k0, nv_row_items, .inl v_row_items)), (h0, .inr (7, oX4 (.ref h1) v_behindOpening))] sz)) 0 0 (va_A [(h1, .inr (10, oX7 (.ref h2) v_row_count v_row_over v_row_there)), (h2, .inl (k0, nv_row_items, .inl v_row_items)), (h0, .inr (7, oX4 (.ref h1) v_behindOpening))] sz) := by
  refine Met.ofW (cc := cX4_writeMember) (maxL := 2) (ret := none) (by decide) rfl ?_
  intro p e s m args below meth c s₁ B hml hv
  obtain ⟨rfl, hsz, hP, hK, hD0, hE⟩ := hv
  have hx := B.exec
  have hb := B.bytes
  have hr := B.returns
  have hts := atoms_spec (ws := WS yX4_writeMember cX4_writeMember 2 none) B.pre
  have ht : ∀ w ∈ TW, w.before _ s = true := fun w h => hts w (List.mem_cons_of_mem _ h)
  have hown : s.vm.findClass "PatternWorkshop$Printer" = some m.cls := findClass_of_methodNamed B.named
  have hlocks := B.notSynchronized
  subst hsz
  have hD := hD0.self (sz := s.heap.size)
  generalize hAe : va_A [(h1, .inr (10, oX7 (.ref h2) v_row_count v_row_over v_row_there)), (h2, .inl (k0, nv_row_items, .inl v_row_items)), (h0, .inr (7, oX4 (.ref h1) v_behindOpening))] s.heap.size = A at hD ⊢
  have hA : ∀ q : Nat, s.heap.size ≤ q → A q := fun q h => by rw [← hAe]; exact Or.inr h
  have hS : va_S A s.heap s.heap [] := va_S.rf
  have hP : va_P (dC, dI) vwCl [(h1, .inr (10, oX7 (.ref h2) v_row_count v_row_over v_row_there)), (h2, .inl (k0, nv_row_items, .inl v_row_items)), (h0, .inr (7, oX4 (.ref h1) v_behindOpening))] s.heap := hP
  have hl := lv_entry ([.ref h0, .int p1]) (n := 2) (Nat.le_of_ble_eq_true rfl)
  rw [lg_entry_eq]
  generalize (lg_sl ([.ref h0, .int p1]) ++ List.replicate (2 - (lg_sl ([.ref h0, .int p1])).length) Slot.unset).toArray = ls at hl ⊢
  have hl : lv_has ls 2 [(0, .ref h0), (1, .int p1)] := hl
  clear hD0
  obtain ⟨QQ, hQQ⟩ : ∃ QQ, QQ = MQ below (va_Qv (fun (u : Nat) => u = 0) (fun (_ : Nat) (t : State) => ∃ (ov_row_count : Int32), ∃ (ov_row_over : Bool), ∃ (ov_row_items : Nat → Int32), (Q ov_row_count ov_row_over ov_row_items) ∧ va_P (dC, dI) vwCl [(h1, .inr (10, oX7 (.ref h2) ov_row_count ov_row_over v_row_there)), (h2, .inl (k0, nv_row_items, .inl ov_row_items)), (h0, .inr (7, oX4 (.ref h1) v_behindOpening))] t.heap ∧ va_D A [(h1, .inr (10, oX7 (.ref h2) ov_row_count ov_row_over v_row_there)), (h2, .inl (k0, nv_row_items, .inl ov_row_items)), (h0, .inr (7, oX4 (.ref h1) v_behindOpening))]) A) ([.ref h0, .int p1]).toArray s 0 0 A := ⟨_, rfl⟩
  show W p l e ({ frames := 2, cells := 0, slots := 0, locals := 44 } : Room) s m ([.ref h0, .int p1]).toArray below meth c s.heap [] 0 0 (MQ below (va_Qv (fun (u : Nat) => u = 0) (fun (_ : Nat) (t : State) => ∃ (ov_row_count : Int32), ∃ (ov_row_over : Bool), ∃ (ov_row_items : Nat → Int32), (Q ov_row_count ov_row_over ov_row_items) ∧ va_P (dC, dI) vwCl [(h1, .inr (10, oX7 (.ref h2) ov_row_count ov_row_over v_row_there)), (h2, .inl (k0, nv_row_items, .inl ov_row_items)), (h0, .inr (7, oX4 (.ref h1) v_behindOpening))] t.heap ∧ va_D A [(h1, .inr (10, oX7 (.ref h2) ov_row_count ov_row_over v_row_there)), (h2, .inl (k0, nv_row_items, .inl ov_row_items)), (h0, .inr (7, oX4 (.ref h1) v_behindOpening))]) A) ([.ref h0, .int p1]).toArray s 0 0 A) (F0 m 0 ls [])
  rw [← hQQ]
  unfold w_X4_writeMember at w
  refine lv_iload_n hx hb dX4_writeMember_0 rfl (lv_at hl 1 rfl) ?_
  have hPc_1 := hP.sub (ws' := []) [] rfl
  have hDc_1 := hD.sub (ws' := []) [] (by decide) rfl
  have hKc_1 := hK.sub (tys' := []) [] rfl
  have hFc_1 := va_free (wc := []) hD hS hA [] rfl
  refine va_calli (va_runSN (As := [.int p1]) (rest := []) ⟨hx, hb, hml, hown, ht⟩ (mt_X11_isTapeSign l dC dI p1 _ w s.heap.size) ⟨va_cnB 1 ht gw_X11_isTapeSign rfl rfl rfl (hE.2.2.2.2.2.2.2.2.2.2.2.2.2.2.2.2.1) (ht _ tw_236) (by decide +kernel) ⟨Nat.le_of_ble_eq_true rfl, Nat.le_of_ble_eq_true rfl⟩, ht _ tw_863, trivial⟩ ⟨fun a U g mk q => by obtain ⟨q0, q1, qP, qK, qD⟩ := q; exact ⟨q0, q1, qP, va_K.moved (u := U) (U := U.calling g mk a) (Vm.Alike.refl U.vm) qK, qD⟩, fun U hU hW => ⟨rfl, by rw [hU], by rw [hU]; exact hPc_1, va_K.moved hW.alike hKc_1, hDc_1.weaken (fun _ _ _ _ => trivial)⟩⟩ rfl rfl hl.1 rfl (lv_room (Nat.le_of_ble_eq_true rfl)) dX4_writeMember_1 ⟨Nat.le_of_ble_eq_true rfl, Nat.le_of_ble_eq_true rfl⟩) hS (fun q _ h => hFc_1 q h) hFc_1 (fun r_1 u_1 t_1 H_1 locs_1 ht_1 hvm_1 hw_1 hB_1 hz_1 hk_1 hS_1 => ?_)
  subst hw_1
  obtain ⟨w_1, hP1_1, hD1_1⟩ := hB_1
  rw [ht_1] at hP1_1
  obtain ⟨hP_1, hD_1⟩ := va_join (wr := [(h1, .inr (10, oX7 (.ref h2) v_row_count v_row_over v_row_there)), (h2, .inl (k0, nv_row_items, .inl v_row_items)), (h0, .inr (7, oX4 (.ref h1) v_behindOpening))]) (w1 := []) hP hD [] [0, 1, 2] rfl rfl (by decide) (by decide) hk_1 hFc_1 hP1_1 hD1_1
  have hP_1 := hP_1.sub (ws' := [(h1, .inr (10, oX7 (.ref h2) v_row_count v_row_over v_row_there)), (h2, .inl (k0, nv_row_items, .inl v_row_items)), (h0, .inr (7, oX4 (.ref h1) v_behindOpening))]) [0, 1, 2] rfl
  have hD_1 := hD_1.sub (ws' := [(h1, .inr (10, oX7 (.ref h2) v_row_count v_row_over v_row_there)), (h2, .inl (k0, nv_row_items, .inl v_row_items)), (h0, .inr (7, oX4 (.ref h1) v_behindOpening))]) [0, 1, 2] (by decide) rfl
  clear hPc_1 hDc_1 hKc_1 hFc_1 hP1_1 hD1_1 hk_1 hz_1
  refine lv_if_ne (tgt := 13) hx hb dX4_writeMember_4 (by decide) (fun c_2 => ?_) (fun c_2 => ?_)
  · refine lv_iload_n hx hb dX4_writeMember_13 rfl (lv_at hl 1 rfl) ?_
    refine lv_bipush (v := 91) hx hb dX4_writeMember_14 (by decide) ?_
    have k_52 : ∀ (v_row_count_52 : Int32) (v_row_over_52 : Bool) (v_row_items_52 : Nat → Int32), ∀ (H_b52 : Heap) (locs_b52 : List Loc) (ls_b52 : Array Slot), w_X4_writeMember_52 p1 nv_row_items Q v_row_count_52 v_row_over_52 v_row_items_52 → va_P (dC, dI) vwCl [(h1, .inr (10, oX7 (.ref h2) v_row_count_52 v_row_over_52 v_row_there)), (h2, .inl (k0, nv_row_items, .inl v_row_items_52)), (h0, .inr (7, oX4 (.ref h1) v_behindOpening))] H_b52 → va_D A [(h1, .inr (10, oX7 (.ref h2) v_row_count_52 v_row_over_52 v_row_there)), (h2, .inl (k0, nv_row_items, .inl v_row_items_52)), (h0, .inr (7, oX4 (.ref h1) v_behindOpening))] → va_S A s.heap H_b52 locs_b52 → lv_has ls_b52 2 [(0, .ref h0), (1, .int p1)] → W p l e ({ frames := 2, cells := 0, slots := 0, locals := 44 } : Room) s m ([.ref h0, .int p1]).toArray below meth c H_b52 locs_b52 0 0 QQ (F0 m 52 ls_b52 []) := by
      intro v_row_count_52 v_row_over_52 v_row_items_52 H_b52 locs_b52 ls_b52 w_b52 hP_b52 hD_b52 hS_b52 hl_b52
      unfold w_X4_writeMember_52 at w_b52
      refine lv_aload_n hx hb dX4_writeMember_52 rfl (lv_at hl_b52 0 rfl) ?_
      refine va_get (D := (dC, dI)) (ci := 7) (v := .ref h1) (C := RX4) (T := TX4) (N := 2) hx hb ht inX4 hown hK hP_b52 2 rfl rfl 0 (by decide) (ht _ tw_503) (fun _ h9 => h9) rfl dX4_writeMember_53 ?_
      refine lv_iload_n hx hb dX4_writeMember_56 rfl (lv_at hl_b52 1 rfl) ?_
      have hPc_3 := hP_b52.sub (ws' := [(h1, .inr (10, oX7 (.ref h2) v_row_count_52 v_row_over_52 v_row_there)), (h2, .inl (k0, nv_row_items, .inl v_row_items_52))]) [0, 1] rfl
      have hDc_3 := hD_b52.sub (ws' := [(h1, .inr (10, oX7 (.ref h2) v_row_count_52 v_row_over_52 v_row_there)), (h2, .inl (k0, nv_row_items, .inl v_row_items_52))]) [0, 1] (by decide) rfl
      have hKc_3 := hK.sub (tys' := [(k0, .int)]) [0] rfl
      have hFc_3 := va_free (wc := [(h1, .inr (10, oX7 (.ref h2) v_row_count_52 v_row_over_52 v_row_there)), (h2, .inl (k0, nv_row_items, .inl v_row_items_52))]) hD_b52 hS_b52 hA [0, 1] rfl
      refine va_callv (va_runV (As := [.int p1]) (rest := []) ⟨hx, hb, hml, hown, ht⟩ (mt_X7_add l dC dI h1 h2 k0 p1 v_row_count_52 v_row_over_52 v_row_there v_row_items_52 nv_row_items _ w_b52 H_b52.size) (cwV 1 ht (goodV tw_1209 tw_866 tw_867 tw_237 gw_X7_add) rfl rfl rfl (by decide +kernel) ⟨Nat.le_of_ble_eq_true rfl, Nat.le_of_ble_eq_true rfl⟩) ⟨fun a U g mk q => by obtain ⟨q0, q1, qP, qK, qD⟩ := q; exact ⟨q0, q1, qP, va_K.moved (u := U) (U := U.calling g mk a) (Vm.Alike.refl U.vm) qK, qD⟩, va_recv hKc_3 hPc_3 (ci := 10) (q0 := 0) rfl rfl, fun U hU hW => ⟨rfl, by rw [hU], by rw [hU]; exact hPc_3, va_K.moved hW.alike hKc_3, hDc_3.weaken (fun _ _ _ _ => trivial)⟩⟩ rfl rfl hl_b52.1 rfl (lv_room (Nat.le_of_ble_eq_true rfl)) dX4_writeMember_57 ⟨Nat.le_of_ble_eq_true rfl, Nat.le_of_ble_eq_true rfl⟩) hS_b52 (fun q _ h => hFc_3 q h) hFc_3 (fun u_3 t_3 H_3 locs_3 ht_3 hvm_3 hw_3 hB_3 hz_3 hk_3 hS_3 => ?_)
      subst hw_3
      obtain ⟨r_3_0, r_3_1, r_3_2, w_3, hP1_3, hD1_3⟩ := hB_3
      rw [ht_3] at hP1_3
      obtain ⟨hP_3, hD_3⟩ := va_join (wr := [(h0, .inr (7, oX4 (.ref h1) v_behindOpening))]) (w1 := [(h1, .inr (10, oX7 (.ref h2) r_3_0 r_3_1 v_row_there)), (h2, .inl (k0, nv_row_items, .inl r_3_2))]) hP_b52 hD_b52 [0, 1] [2] rfl rfl (by decide) (by decide) hk_3 hFc_3 hP1_3 hD1_3
      have hP_3 := hP_3.sub (ws' := [(h1, .inr (10, oX7 (.ref h2) r_3_0 r_3_1 v_row_there)), (h2, .inl (k0, nv_row_items, .inl r_3_2)), (h0, .inr (7, oX4 (.ref h1) v_behindOpening))]) [1, 2, 0] rfl
      have hD_3 := hD_3.sub (ws' := [(h1, .inr (10, oX7 (.ref h2) r_3_0 r_3_1 v_row_there)), (h2, .inl (k0, nv_row_items, .inl r_3_2)), (h0, .inr (7, oX4 (.ref h1) v_behindOpening))]) [1, 2, 0] (by decide) rfl
      clear hPc_3 hDc_3 hKc_3 hFc_3 hP1_3 hD1_3 hk_3 hz_3
      rw [hQQ]
      exact W.vret hx hb hr (fun t9 ht9 hW9 => ⟨⟨0, rfl, rfl, ⟨r_3_0, r_3_1, r_3_2, w_3, by rw [ht9]; exact hP_3, hD_3⟩⟩, hS_3.F ht9⟩) hS_3.2.2 dX4_writeMember_60
    have k_43 : ∀ (v_row_count_43 : Int32) (v_row_over_43 : Bool) (v_row_items_43 : Nat → Int32), ∀ (H_b43 : Heap) (locs_b43 : List Loc) (ls_b43 : Array Slot), w_X4_writeMember_43 p1 nv_row_items Q v_row_count_43 v_row_over_43 v_row_items_43 → va_P (dC, dI) vwCl [(h1, .inr (10, oX7 (.ref h2) v_row_count_43 v_row_over_43 v_row_there)), (h2, .inl (k0, nv_row_items, .inl v_row_items_43)), (h0, .inr (7, oX4 (.ref h1) v_behindOpening))] H_b43 → va_D A [(h1, .inr (10, oX7 (.ref h2) v_row_count_43 v_row_over_43 v_row_there)), (h2, .inl (k0, nv_row_items, .inl v_row_items_43)), (h0, .inr (7, oX4 (.ref h1) v_behindOpening))] → va_S A s.heap H_b43 locs_b43 → lv_has ls_b43 2 [(0, .ref h0), (1, .int p1)] → W p l e ({ frames := 2, cells := 0, slots := 0, locals := 44 } : Room) s m ([.ref h0, .int p1]).toArray below meth c H_b43 locs_b43 0 0 QQ (F0 m 43 ls_b43 []) := by
      intro v_row_count_43 v_row_over_43 v_row_items_43 H_b43 locs_b43 ls_b43 w_b43 hP_b43 hD_b43 hS_b43 hl_b43
      unfold w_X4_writeMember_43 at w_b43
      refine lv_aload_n hx hb dX4_writeMember_43 rfl (lv_at hl_b43 0 rfl) ?_
      refine va_get (D := (dC, dI)) (ci := 7) (v := .ref h1) (C := RX4) (T := TX4) (N := 2) hx hb ht inX4 hown hK hP_b43 2 rfl rfl 0 (by decide) (ht _ tw_503) (fun _ h9 => h9) rfl dX4_writeMember_44 ?_
      refine lv_bipush (v := 92) hx hb dX4_writeMember_47 (by decide) ?_
      have hPc_4 := hP_b43.sub (ws' := [(h1, .inr (10, oX7 (.ref h2) v_row_count_43 v_row_over_43 v_row_there)), (h2, .inl (k0, nv_row_items, .inl v_row_items_43))]) [0, 1] rfl
      have hDc_4 := hD_b43.sub (ws' := [(h1, .inr (10, oX7 (.ref h2) v_row_count_43 v_row_over_43 v_row_there)), (h2, .inl (k0, nv_row_items, .inl v_row_items_43))]) [0, 1] (by decide) rfl
      have hKc_4 := hK.sub (tys' := [(k0, .int)]) [0] rfl
      have hFc_4 := va_free (wc := [(h1, .inr (10, oX7 (.ref h2) v_row_count_43 v_row_over_43 v_row_there)), (h2, .inl (k0, nv_row_items, .inl v_row_items_43))]) hD_b43 hS_b43 hA [0, 1] rfl
      refine va_callv (va_runV (As := [.int 92]) (rest := []) ⟨hx, hb, hml, hown, ht⟩ (mt_X7_add l dC dI h1 h2 k0 92 v_row_count_43 v_row_over_43 v_row_there v_row_items_43 nv_row_items _ w_b43 H_b43.size) (cwV 1 ht (goodV tw_1209 tw_866 tw_867 tw_237 gw_X7_add) rfl rfl rfl (by decide +kernel) ⟨Nat.le_of_ble_eq_true rfl, Nat.le_of_ble_eq_true rfl⟩) ⟨fun a U g mk q => by obtain ⟨q0, q1, qP, qK, qD⟩ := q; exact ⟨q0, q1, qP, va_K.moved (u := U) (U := U.calling g mk a) (Vm.Alike.refl U.vm) qK, qD⟩, va_recv hKc_4 hPc_4 (ci := 10) (q0 := 0) rfl rfl, fun U hU hW => ⟨rfl, by rw [hU], by rw [hU]; exact hPc_4, va_K.moved hW.alike hKc_4, hDc_4.weaken (fun _ _ _ _ => trivial)⟩⟩ rfl rfl hl_b43.1 rfl (lv_room (Nat.le_of_ble_eq_true rfl)) dX4_writeMember_49 ⟨Nat.le_of_ble_eq_true rfl, Nat.le_of_ble_eq_true rfl⟩) hS_b43 (fun q _ h => hFc_4 q h) hFc_4 (fun u_4 t_4 H_4 locs_4 ht_4 hvm_4 hw_4 hB_4 hz_4 hk_4 hS_4 => ?_)
      subst hw_4
      obtain ⟨r_4_0, r_4_1, r_4_2, w_4, hP1_4, hD1_4⟩ := hB_4
      rw [ht_4] at hP1_4
      obtain ⟨hP_4, hD_4⟩ := va_join (wr := [(h0, .inr (7, oX4 (.ref h1) v_behindOpening))]) (w1 := [(h1, .inr (10, oX7 (.ref h2) r_4_0 r_4_1 v_row_there)), (h2, .inl (k0, nv_row_items, .inl r_4_2))]) hP_b43 hD_b43 [0, 1] [2] rfl rfl (by decide) (by decide) hk_4 hFc_4 hP1_4 hD1_4
      have hP_4 := hP_4.sub (ws' := [(h1, .inr (10, oX7 (.ref h2) r_4_0 r_4_1 v_row_there)), (h2, .inl (k0, nv_row_items, .inl r_4_2)), (h0, .inr (7, oX4 (.ref h1) v_behindOpening))]) [1, 2, 0] rfl
      have hD_4 := hD_4.sub (ws' := [(h1, .inr (10, oX7 (.ref h2) r_4_0 r_4_1 v_row_there)), (h2, .inl (k0, nv_row_items, .inl r_4_2)), (h0, .inr (7, oX4 (.ref h1) v_behindOpening))]) [1, 2, 0] (by decide) rfl
      clear hPc_4 hDc_4 hKc_4 hFc_4 hP1_4 hD1_4 hk_4 hz_4
      exact k_52 r_4_0 r_4_1 r_4_2 _ _ _ w_4 hP_4 hD_4 hS_4 (lv_sub hl_b43 [0, 1] rfl)
    refine lv_icmp_eq (tgt := 43) hx hb dX4_writeMember_16 (by decide) (fun c_5 => ?_) (fun c_5 => ?_)
    · exact k_43 v_row_count v_row_over v_row_items _ _ _ ((w_1.1 c_2).1 c_5) hP_1 hD_1 hS_1 (lv_sub hl [0, 1] rfl)
    · refine lv_iload_n hx hb dX4_writeMember_19 rfl (lv_at hl 1 rfl) ?_
      refine lv_bipush (v := 93) hx hb dX4_writeMember_20 (by decide) ?_
      refine lv_icmp_eq (tgt := 43) hx hb dX4_writeMember_22 (by decide) (fun c_6 => ?_) (fun c_6 => ?_)
      · exact k_43 v_row_count v_row_over v_row_items _ _ _ (((w_1.1 c_2).2 c_5).1 c_6) hP_1 hD_1 hS_1 (lv_sub hl [0, 1] rfl)
      · refine lv_iload_n hx hb dX4_writeMember_25 rfl (lv_at hl 1 rfl) ?_
        refine lv_bipush (v := 94) hx hb dX4_writeMember_26 (by decide) ?_
        refine lv_icmp_eq (tgt := 43) hx hb dX4_writeMember_28 (by decide) (fun c_7 => ?_) (fun c_7 => ?_)
        · exact k_43 v_row_count v_row_over v_row_items _ _ _ ((((w_1.1 c_2).2 c_5).2 c_6).1 c_7) hP_1 hD_1 hS_1 (lv_sub hl [0, 1] rfl)
        · refine lv_iload_n hx hb dX4_writeMember_31 rfl (lv_at hl 1 rfl) ?_
          refine lv_bipush (v := 45) hx hb dX4_writeMember_32 (by decide) ?_
          refine lv_icmp_eq (tgt := 43) hx hb dX4_writeMember_34 (by decide) (fun c_8 => ?_) (fun c_8 => ?_)
          · have w_9 := ((((w_1.1 c_2).2 c_5).2 c_6).2 c_7).1 c_8
            exact k_43 v_row_count v_row_over v_row_items _ _ _ w_9 hP_1 hD_1 hS_1 (lv_sub hl [0, 1] rfl)
          · refine lv_iload_n hx hb dX4_writeMember_37 rfl (lv_at hl 1 rfl) ?_
            refine lv_bipush (v := 92) hx hb dX4_writeMember_38 (by decide) ?_
            have w_10 := ((((w_1.1 c_2).2 c_5).2 c_6).2 c_7).2 c_8
            refine lv_icmp_ne (tgt := 52) hx hb dX4_writeMember_40 (by decide) (fun c_11 => ?_) (fun c_11 => ?_)
            · exact k_52 v_row_count v_row_over v_row_items _ _ _ (w_10.1 c_11) hP_1 hD_1 hS_1 (lv_sub hl [0, 1] rfl)
            · exact k_43 v_row_count v_row_over v_row_items _ _ _ (w_10.2 c_11) hP_1 hD_1 hS_1 (lv_sub hl [0, 1] rfl)
  · refine lv_aload_n hx hb dX4_writeMember_7 rfl (lv_at hl 0 rfl) ?_
    refine lv_iload_n hx hb dX4_writeMember_8 rfl (lv_at hl 1 rfl) ?_
    have hPc_12 := hP_1.sub (ws' := [(h1, .inr (10, oX7 (.ref h2) v_row_count v_row_over v_row_there)), (h2, .inl (k0, nv_row_items, .inl v_row_items)), (h0, .inr (7, oX4 (.ref h1) v_behindOpening))]) [0, 1, 2] rfl
    have hDc_12 := hD_1.sub (ws' := [(h1, .inr (10, oX7 (.ref h2) v_row_count v_row_over v_row_there)), (h2, .inl (k0, nv_row_items, .inl v_row_items)), (h0, .inr (7, oX4 (.ref h1) v_behindOpening))]) [0, 1, 2] (by decide) rfl
    have hKc_12 := hK.sub (tys' := [(k0, .int)]) [0] rfl
    have hFc_12 := va_free (wc := [(h1, .inr (10, oX7 (.ref h2) v_row_count v_row_over v_row_there)), (h2, .inl (k0, nv_row_items, .inl v_row_items)), (h0, .inr (7, oX4 (.ref h1) v_behindOpening))]) hD_1 hS_1 hA [0, 1, 2] rfl
    refine va_callv (va_runV (As := [.int p1]) (rest := []) ⟨hx, hb, hml, hown, ht⟩ (mt_X4_writeCode l dC dI h0 h1 h2 k0 p1 v_row_count v_row_over v_row_there v_row_items nv_row_items v_behindOpening _ (w_1.2 c_2) H_1.size) (cwV 1 ht (goodV tw_1223 tw_1225 tw_44 tw_242 gw_X4_writeCode) rfl rfl rfl (by decide +kernel) ⟨Nat.le_of_ble_eq_true rfl, Nat.le_of_ble_eq_true rfl⟩) ⟨fun a U g mk q => by obtain ⟨q0, q1, qP, qK, qD⟩ := q; exact ⟨q0, q1, qP, va_K.moved (u := U) (U := U.calling g mk a) (Vm.Alike.refl U.vm) qK, qD⟩, va_recv hKc_12 hPc_12 (ci := 7) (q0 := 2) rfl rfl, fun U hU hW => ⟨rfl, by rw [hU], by rw [hU]; exact hPc_12, va_K.moved hW.alike hKc_12, hDc_12.weaken (fun _ _ _ _ => trivial)⟩⟩ rfl rfl hl.1 rfl (lv_room (Nat.le_of_ble_eq_true rfl)) dX4_writeMember_9 ⟨Nat.le_of_ble_eq_true rfl, Nat.le_of_ble_eq_true rfl⟩) hS_1 (fun q _ h => hFc_12 q h) hFc_12 (fun u_12 t_12 H_12 locs_12 ht_12 hvm_12 hw_12 hB_12 hz_12 hk_12 hS_12 => ?_)
    subst hw_12
    obtain ⟨r_12_0, r_12_1, r_12_2, w_12, hP1_12, hD1_12⟩ := hB_12
    rw [ht_12] at hP1_12
    obtain ⟨hP_12, hD_12⟩ := va_join (wr := []) (w1 := [(h1, .inr (10, oX7 (.ref h2) r_12_0 r_12_1 v_row_there)), (h2, .inl (k0, nv_row_items, .inl r_12_2)), (h0, .inr (7, oX4 (.ref h1) v_behindOpening))]) hP_1 hD_1 [0, 1, 2] [] rfl rfl (by decide) (by decide) hk_12 hFc_12 hP1_12 hD1_12
    have hP_12 := hP_12.sub (ws' := [(h1, .inr (10, oX7 (.ref h2) r_12_0 r_12_1 v_row_there)), (h2, .inl (k0, nv_row_items, .inl r_12_2)), (h0, .inr (7, oX4 (.ref h1) v_behindOpening))]) [0, 1, 2] rfl
    have hD_12 := hD_12.sub (ws' := [(h1, .inr (10, oX7 (.ref h2) r_12_0 r_12_1 v_row_there)), (h2, .inl (k0, nv_row_items, .inl r_12_2)), (h0, .inr (7, oX4 (.ref h1) v_behindOpening))]) [0, 1, 2] (by decide) rfl
    clear hPc_12 hDc_12 hKc_12 hFc_12 hP1_12 hD1_12 hk_12 hz_12
    rw [hQQ]
    exact W.vret hx hb hr (fun t9 ht9 hW9 => ⟨⟨0, rfl, rfl, ⟨r_12_0, r_12_1, r_12_2, w_12, by rw [ht9]; exact hP_12, hD_12⟩⟩, hS_12.F ht9⟩) hS_12.2.2 dX4_writeMember_12
