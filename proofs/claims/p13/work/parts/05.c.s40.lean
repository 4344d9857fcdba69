def w_J7_fill_53178_5B (p1 : Int32) (Q : (Nat → Int32) → Prop) (K5 : Int32 → (Nat → Int32) → Prop) (l3_5 : Int32) (l2_5 : Int32) (a0__5 : Nat → Int32) : Prop :=
  ((l3_5 ≤ l2_5) → Q  a0__5) ∧ ((¬ l3_5 ≤ l2_5) → vp_in l2_5 20 ∧ ∀ g_4 : Nat → Int32, g_4 = upd a0__5 l2_5.toNatClampNeg p1 → ∀ x_5 : Int32, x_5 = l2_5 + 1 → K5 x_5 g_4)
def w_J7_fill_53178_5 (p1 : Int32) (Q : (Nat → Int32) → Prop) (l3_5 : Int32) : Nat → Int32 → (Nat → Int32) → Prop
  | 0, _, _ => False
  | n9 + 1, l2_5, a0__5 => w_J7_fill_53178_5B p1 Q (w_J7_fill_53178_5 p1 Q l3_5 n9) l3_5 l2_5 a0__5
def w_J7_fill_53178 (p1 : Int32) (a0_ : Nat → Int32) (Q : (Nat → Int32) → Prop) : Prop :=
  ∃ k9 : Nat, w_J7_fill_53178_5 p1 Q 20 k9 0 a0_
set_option maxHeartbeats 4000000 in
set_option maxRecDepth 100000 in
theorem mt_J7_fill_53178 (l : Launch) (dC : Nat → ClassId) (dI : Nat → Nat → Nat) (h0 : Nat) (k0 : ClassId) (p1 : Int32) (a0_ : Nat → Int32) (Q : (Nat → Int32) → Prop) (w : w_J7_fill_53178 p1 a0_ Q) (sz : Nat) : Met l yJ7_fill_53178 (WS yJ7_fill_53178 cJ7_fill_53178 4 none) ({ frames := 0, cells := 0, slots := 0, locals := 0 } : Room) (va_Pc [.ref h0, .int p1] (fun U => U.heap.size = sz ∧ va_P (dC, dI) vwCl [(h0, .inl (k0, 20, .inl a0_))] U.heap ∧ va_K (dC, dI) vwCl [(k0, .int)] U ∧ va_D (fun _ => True) [(h0, .inl (k0, 20, .inl a0_))])) (va_Qv (fun (u : Nat) => u = 0) (fun (_ : Nat) (t : State) => ∃ (oa0_ : Nat → Int32), (Q oa0_) ∧ va_P (dC, dI) vwCl [(h0, .inl (k0, 20, .inl oa0_))] t.heap ∧ va_D (va_A [(h0, .inl (k0, 20, .inl a0_))] sz) [(h0, .inl (k0, 20, .inl oa0_))]) (va_A [(h0, .inl (k0, 20, .inl a0_))] sz)) 0 0 (va_A [(h0, .inl (k0, 20, .inl a0_))] sz) := by
  refine Met.ofW (cc := cJ7_fill_53178) (maxL := 4) (ret := none) (by decide) rfl ?_
  intro p e s m args below meth c s₁ B hml hv
  obtain ⟨rfl, hsz, hP, hK, hD0⟩ := hv
  have hx := B.exec
  have hb := B.bytes
  have hr := B.returns
  have hts := atoms_spec (ws := WS yJ7_fill_53178 cJ7_fill_53178 4 none) B.pre
  have ht : ∀ w ∈ TW, w.before _ s = true := fun w h => hts w (List.mem_cons_of_mem _ h)
  have hown : s.vm.findClass "java/util/Arrays" = some m.cls := findClass_of_methodNamed B.named
  have hlocks := B.notSynchronized
  subst hsz
  have hD := hD0.self (sz := s.heap.size)
  generalize hAe : va_A [(h0, .inl (k0, 20, .inl a0_))] s.heap.size = A at hD ⊢
  have hA : ∀ q : Nat, s.heap.size ≤ q → A q := fun q h => by rw [← hAe]; exact Or.inr h
  have hS : va_S A s.heap s.heap [] := va_S.rf
  have hP : va_P (dC, dI) vwCl [(h0, .inl (k0, 20, .inl a0_))] s.heap := hP
  have hl := lv_entry ([.ref h0, .int p1]) (n := 4) (Nat.le_of_ble_eq_true rfl)
  rw [lg_entry_eq]
  generalize (lg_sl ([.ref h0, .int p1]) ++ List.replicate (4 - (lg_sl ([.ref h0, .int p1])).length) Slot.unset).toArray = ls at hl ⊢
  have hl : lv_has ls 4 [(0, .ref h0), (1, .int p1)] := hl
  clear hD0
  obtain ⟨QQ, hQQ⟩ : ∃ QQ, QQ = MQ below (va_Qv (fun (u : Nat) => u = 0) (fun (_ : Nat) (t : State) => ∃ (oa0_ : Nat → Int32), (Q oa0_) ∧ va_P (dC, dI) vwCl [(h0, .inl (k0, 20, .inl oa0_))] t.heap ∧ va_D A [(h0, .inl (k0, 20, .inl oa0_))]) A) ([.ref h0, .int p1]).toArray s 0 0 A := ⟨_, rfl⟩
  show W p l e ({ frames := 0, cells := 0, slots := 0, locals := 0 } : Room) s m ([.ref h0, .int p1]).toArray below meth c s.heap [] 0 0 (MQ below (va_Qv (fun (u : Nat) => u = 0) (fun (_ : Nat) (t : State) => ∃ (oa0_ : Nat → Int32), (Q oa0_) ∧ va_P (dC, dI) vwCl [(h0, .inl (k0, 20, .inl oa0_))] t.heap ∧ va_D A [(h0, .inl (k0, 20, .inl oa0_))]) A) ([.ref h0, .int p1]).toArray s 0 0 A) (F0 m 0 ls [])
  rw [← hQQ]
  unfold w_J7_fill_53178 at w
  refine lv_iconst (v := 0) hx hb dJ7_fill_53178_0 (by decide) ?_
  refine lv_istore_n (lv' := [(2, .int 0), (0, .ref h0), (1, .int p1)]) hx hb dJ7_fill_53178_1 rfl hl (by decide) rfl (fun ls_1 hl_1 => ?_)
  clear hl
  refine lv_aload_n hx hb dJ7_fill_53178_2 rfl (lv_at hl_1 1 rfl) ?_
  refine va_alen hx hb hK hP 0 0 rfl rfl (v := 20) (show Int32.ofNat 20 = 20 by decide) dJ7_fill_53178_3 ?_
  refine lv_istore_n (lv' := [(3, .int 20), (2, .int 0), (0, .ref h0), (1, .int p1)]) hx hb dJ7_fill_53178_4 rfl hl_1 (by decide) rfl (fun ls_2 hl_2 => ?_)
  clear hl_1
  have k_5 : ∀ (l3_5 : Int32), ∀ n_5 : Nat, ∀ (l2_5 : Int32) (a0__5 : Nat → Int32), ∀ (H_b5 : Heap) (locs_b5 : List Loc) (ls_b5 : Array Slot), w_J7_fill_53178_5 p1 Q l3_5 n_5 l2_5 a0__5 → va_P (dC, dI) vwCl [(h0, .inl (k0, 20, .inl a0__5))] H_b5 → va_D A [(h0, .inl (k0, 20, .inl a0__5))] → va_S A s.heap H_b5 locs_b5 → lv_has ls_b5 4 [(0, .ref h0), (1, .int p1), (2, .int l2_5), (3, .int l3_5)] → W p l e ({ frames := 0, cells := 0, slots := 0, locals := 0 } : Room) s m ([.ref h0, .int p1]).toArray below meth c H_b5 locs_b5 0 0 QQ (F0 m 5 ls_b5 []) := by
    intro l3_5
    intro n_5
    induction n_5 with
    | zero =>
      intro l2_5 a0__5 H_b5 locs_b5 ls_b5 w_b5 hP_b5 hD_b5 hS_b5 hl_b5
      exact False.elim (by unfold w_J7_fill_53178_5 at w_b5; exact w_b5)
    | succ n_5 ih_5 =>
      intro l2_5 a0__5 H_b5 locs_b5 ls_b5 w_b5 hP_b5 hD_b5 hS_b5 hl_b5
      unfold w_J7_fill_53178_5 at w_b5
      unfold w_J7_fill_53178_5B at w_b5
      refine lv_iload_n hx hb dJ7_fill_53178_5 rfl (lv_at hl_b5 2 rfl) ?_
      refine lv_iload_n hx hb dJ7_fill_53178_6 rfl (lv_at hl_b5 3 rfl) ?_
      refine lv_icmp_ge (tgt := 20) hx hb dJ7_fill_53178_7 (by decide) (fun c_3 => ?_) (fun c_3 => ?_)
      · rw [hQQ]
        exact W.vret hx hb hr (fun t9 ht9 hW9 => ⟨⟨0, rfl, rfl, ⟨a0__5, w_b5.1 c_3, by rw [ht9]; exact hP_b5, hD_b5⟩⟩, hS_b5.F ht9⟩) hS_b5.2.2 dJ7_fill_53178_20
      · refine lv_aload_n hx hb dJ7_fill_53178_10 rfl (lv_at hl_b5 0 rfl) ?_
        refine lv_iload_n hx hb dJ7_fill_53178_11 rfl (lv_at hl_b5 2 rfl) ?_
        refine lv_iload_n hx hb dJ7_fill_53178_12 rfl (lv_at hl_b5 1 rfl) ?_
        refine va_iast hx hb hK hP_b5 hD_b5 hS_b5 0 0 rfl rfl (i := l2_5) (w_b5.2 c_3).1 dJ7_fill_53178_13 (fun H_4 locs_4 hP_4 hD_4 hS_4 => ?_)
        obtain ⟨g_4, hg_4⟩ : ∃ g : Nat → Int32, g = upd a0__5 l2_5.toNatClampNeg p1 := ⟨_, rfl⟩
        have hP_4 : va_P (dC, dI) vwCl [(h0, .inl (k0, 20, .inl g_4))] H_4 := by rw [hg_4]; exact hP_4
        have hD_4 : va_D A [(h0, .inl (k0, 20, .inl g_4))] := by rw [hg_4]; exact hD_4
        obtain ⟨x_5, ex_5⟩ : ∃ y : Int32, y = l2_5 + 1 := ⟨_, rfl⟩
        refine lv_iinc (v := x_5) (lv' := [(2, .int x_5), (0, .ref h0), (1, .int p1), (3, .int l3_5)]) hx hb dJ7_fill_53178_14 hl_b5 (k := 2) rfl ex_5.symm (by decide) rfl (fun ls_5 hl_5 => ?_)
        refine lv_goto (tgt := 5) hx hb dJ7_fill_53178_17 (by decide) ?_
        exact ih_5 x_5 g_4 _ _ _ ((((w_b5.2 c_3).2) g_4 hg_4) x_5 ex_5) hP_4 hD_4 hS_4 (lv_sub hl_5 [1, 2, 0, 3] rfl)
  obtain ⟨n_6, w_6⟩ := w
  exact k_5 20 n_6 0 a0_ _ _ _ w_6 hP hD hS (lv_sub hl_2 [2, 3, 1, 0] rfl)
