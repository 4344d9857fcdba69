set_option maxHeartbeats 4000000 in
set_option maxRecDepth 100000 in
theorem mt_X12_in_v11 (l : Launch) (dC : Nat → ClassId) (dI : Nat → Nat → Nat) (sz : Nat) : Met l yX12_in (WS yX12_in cX12_in 3 (some (.boolean))) ({ frames := 0, cells := 0, slots := 0, locals := 0 }) (va_Pc [.int 5, .int 1, .int 8] (fun U => U.heap.size = sz ∧ va_P (dC, dI) vwCl [] U.heap ∧ va_K (dC, dI) vwCl [] U ∧ va_D (fun _ => True) [])) (va_Qi (fun (r : Int32) (u : Nat) => (u = 0 ∧ r = 1)) (fun (_ : Nat) (t : State) => (va_P (dC, dI) vwCl [] t.heap ∧ va_K (dC, dI) vwCl [] t ∧ va_D (va_A [] sz) [])) (va_A [] sz)) 0 0 (va_A [] sz) := by
  refine Met.ofW (cc := cX12_in) (maxL := 3) (ret := (some (.boolean))) (by decide) rfl ?_
  intro p e s m args below meth c s₁ B hml hv
  obtain ⟨rfl, hsz, hP, hK, hD0⟩ := hv
  have hx := B.exec
  have hb := B.bytes
  have hr := B.returns
  have hts := atoms_spec (ws := WS yX12_in cX12_in 3 (some (.boolean))) B.pre
  have ht : ∀ w ∈ TW, w.before _ s = true := fun w h => hts w (List.mem_cons_of_mem _ h)
  have hown : s.vm.findClass "PatternWorkshopModel" = some m.cls := findClass_of_methodNamed B.named
  have hlocks := B.notSynchronized
  subst hsz
  have hD := hD0.self (sz := s.heap.size)
  generalize hAe : va_A [] s.heap.size = A at hD ⊢
  have hA : ∀ q : Nat, s.heap.size ≤ q → A q := fun q h => by rw [← hAe]; exact Or.inr h
  have hS : va_S A s.heap s.heap [] := va_S.rf
  have hP : va_P (dC, dI) vwCl [] s.heap := hP
  have hl := lv_entry ([.int 5, .int 1, .int 8]) (n := 3) (Nat.le_of_ble_eq_true rfl)
  rw [lg_entry_eq]
  generalize (lg_sl ([.int 5, .int 1, .int 8]) ++ List.replicate (3 - (lg_sl ([.int 5, .int 1, .int 8])).length) Slot.unset).toArray = ls at hl ⊢
  have hl : lv_has ls 3 [(0, .int 5), (1, .int 1), (2, .int 8)] := hl
  clear hD0
  refine lv_iload_n hx hb dX12_in_0 rfl (lv_at hl 0 rfl) ?_
  refine lv_iload_n hx hb dX12_in_1 rfl (lv_at hl 1 rfl) ?_
  refine lv_icmp_lt (tgt := 14) hx hb dX12_in_2 (by decide) (fun c_ => absurd c_ (by decide)) (fun _ => ?_)
  refine lv_iload_n hx hb dX12_in_5 rfl (lv_at hl 0 rfl) ?_
  refine lv_iload_n hx hb dX12_in_6 rfl (lv_at hl 2 rfl) ?_
  refine lv_icmp_gt (tgt := 14) hx hb dX12_in_7 (by decide) (fun c_ => absurd c_ (by decide)) (fun _ => ?_)
  refine lv_iconst (v := 1) hx hb dX12_in_10 (by decide) ?_
  refine lv_goto (tgt := 15) hx hb dX12_in_11 (by decide) ?_
  have hP9 := hP.sub (ws' := []) [] rfl
  have hD9 := hD.sub (ws' := []) [] (by decide) rfl
  have hK9 := hK.sub (tys' := []) [] rfl
  refine W.widen (k := 0) (n := 0) (by decide) (by decide) ?_
  exact W.zret (v := 1) hx hb hr rfl (fun t9 ht9 hW9 => ⟨⟨1, 0, rfl, ⟨rfl, rfl⟩, ⟨by rw [ht9]; exact hP9, va_K.moved hW9.alike hK9, hD9⟩⟩, hS.F ht9⟩) hS.2.2 dX12_in_15
def GM5 (w0 : Int64) : Prop := (¬ (((w0 >>> ((0 : Int32).toInt64 &&& 63)) &&& 255).toInt32) < 32) ∧ (¬ 126 < (((w0 >>> ((0 : Int32).toInt64 &&& 63)) &&& 255).toInt32)) ∧ (¬ (((w0 >>> ((8 : Int32).toInt64 &&& 63)) &&& 255).toInt32) < 32) ∧ (¬ 126 < (((w0 >>> ((8 : Int32).toInt64 &&& 63)) &&& 255).toInt32)) ∧ (¬ (((w0 >>> ((16 : Int32).toInt64 &&& 63)) &&& 255).toInt32) < 32) ∧ (¬ 126 < (((w0 >>> ((16 : Int32).toInt64 &&& 63)) &&& 255).toInt32)) ∧ (¬ (((w0 >>> ((24 : Int32).toInt64 &&& 63)) &&& 255).toInt32) < 32) ∧ (¬ 126 < (((w0 >>> ((24 : Int32).toInt64 &&& 63)) &&& 255).toInt32)) ∧ (¬ (((w0 >>> ((32 : Int32).toInt64 &&& 63)) &&& 255).toInt32) < 32) ∧ (¬ 126 < (((w0 >>> ((32 : Int32).toInt64 &&& 63)) &&& 255).toInt32))
