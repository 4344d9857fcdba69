abbrev cJ7_copyOf_59c91 : ByteArray := prog_25_method_123_code
def yJ7_copyOf_59c91 : MethodName := ⟨RJ7, "copyOf", "([II)[I"⟩
theorem tw_1647 : (.code yJ7_copyOf_59c91 cJ7_copyOf_59c91 3 (some (.array (.int))) : Cond) ∈ TW := tw_in (tb_5 (List.mem_of_getElem? (i := 212) rfl)) (by decide +kernel)
theorem tw_1655 : (.methodLink "java/util/Arrays" 304 ⟨"java/lang/Math", "min", "(II)I"⟩ : Cond) ∈ TW := tw_in (tb_5 (List.mem_of_getElem? (i := 220) rfl)) (by decide +kernel)
theorem tw_1656 : (.methodLink "java/util/Arrays" 150 ⟨"java/lang/System", "arraycopy", "(Ljava/lang/Object;ILjava/lang/Object;II)V"⟩ : Cond) ∈ TW := tw_in (tb_5 (List.mem_of_getElem? (i := 221) rfl)) (by decide +kernel)
theorem gw_J7_copyOf_59c91 : GoodIn TW (WS yJ7_copyOf_59c91 cJ7_copyOf_59c91 3 (some (.array (.int)))) := goodC tw_1647
theorem dJ7_copyOf_59c91_0 : decode cJ7_copyOf_59c91 0 = .ok (.iload_n 1, 1) := by decide +kernel
theorem dJ7_copyOf_59c91_1 : decode cJ7_copyOf_59c91 1 = .ok (.aload_n 0, 1) := by decide +kernel
theorem dJ7_copyOf_59c91_2 : decode cJ7_copyOf_59c91 2 = .ok (.arraylength, 1) := by decide +kernel
theorem dJ7_copyOf_59c91_3 : decode cJ7_copyOf_59c91 3 = .ok (.if_icmp .ne 11, 3) := by decide +kernel
theorem dJ7_copyOf_59c91_14 : decode cJ7_copyOf_59c91 14 = .ok (.iload_n 1, 1) := by decide +kernel
theorem dJ7_copyOf_59c91_15 : decode cJ7_copyOf_59c91 15 = .ok (.newarray .int, 2) := by decide +kernel
theorem dJ7_copyOf_59c91_17 : decode cJ7_copyOf_59c91 17 = .ok (.astore_n 2, 1) := by decide +kernel
theorem dJ7_copyOf_59c91_18 : decode cJ7_copyOf_59c91 18 = .ok (.aload_n 0, 1) := by decide +kernel
theorem dJ7_copyOf_59c91_19 : decode cJ7_copyOf_59c91 19 = .ok (.iconst 0, 1) := by decide +kernel
theorem dJ7_copyOf_59c91_20 : decode cJ7_copyOf_59c91 20 = .ok (.aload_n 2, 1) := by decide +kernel
theorem dJ7_copyOf_59c91_21 : decode cJ7_copyOf_59c91 21 = .ok (.iconst 0, 1) := by decide +kernel
theorem dJ7_copyOf_59c91_22 : decode cJ7_copyOf_59c91 22 = .ok (.aload_n 0, 1) := by decide +kernel
theorem dJ7_copyOf_59c91_23 : decode cJ7_copyOf_59c91 23 = .ok (.arraylength, 1) := by decide +kernel
theorem dJ7_copyOf_59c91_24 : decode cJ7_copyOf_59c91 24 = .ok (.iload_n 1, 1) := by decide +kernel
theorem dJ7_copyOf_59c91_25 : decode cJ7_copyOf_59c91 25 = .ok (.invokestatic 304, 3) := by decide +kernel
theorem dJ7_copyOf_59c91_28 : decode cJ7_copyOf_59c91 28 = .ok (.invokestatic 150, 3) := by decide +kernel
theorem dJ7_copyOf_59c91_31 : decode cJ7_copyOf_59c91 31 = .ok (.aload_n 2, 1) := by decide +kernel
theorem dJ7_copyOf_59c91_32 : decode cJ7_copyOf_59c91 32 = .ok (.areturn, 1) := by decide +kernel
set_option maxHeartbeats 4000000 in
set_option maxRecDepth 100000 in
theorem mt_copyOf (l : Launch) (dC : Nat → ClassId) (dI : Nat → Nat → Nat) (h0 : Nat) (k0 : ClassId) (p1 : Int32) (n N : Nat) (f : Nat → Int32) (hne : ¬ p1 = Int32.ofNat n) (h1 : ¬ p1 < 0) (hN : p1.toNatClampNeg = N) (hB : N * 4 ≤ 536870912) (hm1 : ¬ (if p1 < Int32.ofNat n then p1 else Int32.ofNat n) < 0) (hm2 : (0 : Int32).toNatClampNeg + (if p1 < Int32.ofNat n then p1 else Int32.ofNat n).toNatClampNeg ≤ n) (hm3 : (0 : Int32).toNatClampNeg + (if p1 < Int32.ofNat n then p1 else Int32.ofNat n).toNatClampNeg ≤ N) (sz : Nat) : Met l yJ7_copyOf_59c91 (WS yJ7_copyOf_59c91 cJ7_copyOf_59c91 3 (some (.array (.int)))) ({ frames := 1, cells := 1, slots := N, locals := 40 } : Room) (va_Pc [.ref h0, .int p1] (fun U => U.heap.size = sz ∧ va_P (dC, dI) vwCl [(h0, .inl (k0, n, .inl f))] U.heap ∧ va_K (dC, dI) vwCl [(k0, .int)] U ∧ va_D (fun _ => True) [(h0, .inl (k0, n, .inl f))])) (va_Qr (fun (u : Nat) => u = 0) (fun (_ : Nat) (a : Nat) (t : State) => ∃ g : Nat → Int32, va_P (dC, dI) vwCl [(h0, .inl (k0, n, .inl f)), (a, .inl (k0, N, .inl g))] t.heap ∧ va_D (va_A [(h0, .inl (k0, n, .inl f))] sz) [(h0, .inl (k0, n, .inl f)), (a, .inl (k0, N, .inl g))]) (va_A [(h0, .inl (k0, n, .inl f))] sz)) 1 N (va_A [(h0, .inl (k0, n, .inl f))] sz) := by
  refine Met.ofW (cc := cJ7_copyOf_59c91) (maxL := 3) (ret := (some (.array (.int)))) (by decide) rfl ?_
  intro p e s m args below meth c s₁ B hml hv
  obtain ⟨rfl, hsz, hP, hK, hD0⟩ := hv
  have hx := B.exec
  have hb := B.bytes
  have hr := B.returns
  have hts := atoms_spec (ws := WS yJ7_copyOf_59c91 cJ7_copyOf_59c91 3 (some (.array (.int)))) B.pre
  have ht : ∀ w ∈ TW, w.before _ s = true := fun w h => hts w (List.mem_cons_of_mem _ h)
  have hown : s.vm.findClass "java/util/Arrays" = some m.cls := findClass_of_methodNamed B.named
  have hlocks := B.notSynchronized
  subst hsz
  have hD := hD0.self (sz := s.heap.size)
  generalize hAe : va_A [(h0, .inl (k0, n, .inl f))] s.heap.size = A at hD ⊢
  have hA : ∀ q : Nat, s.heap.size ≤ q → A q := fun q h => by rw [← hAe]; exact Or.inr h
  have hS : va_S A s.heap s.heap [] := va_S.rf
  have hP : va_P (dC, dI) vwCl [(h0, .inl (k0, n, .inl f))] s.heap := hP
  have hl := lv_entry ([.ref h0, .int p1]) (n := 3) (Nat.le_of_ble_eq_true rfl)
  rw [lg_entry_eq]
  generalize (lg_sl ([.ref h0, .int p1]) ++ List.replicate (3 - (lg_sl ([.ref h0, .int p1])).length) Slot.unset).toArray = ls at hl ⊢
  have hl : lv_has ls 3 [(0, .ref h0), (1, .int p1)] := hl
  clear hD0
  obtain ⟨QQ, hQQ⟩ : ∃ QQ, QQ = MQ below (va_Qr (fun (u : Nat) => u = 0) (fun (_ : Nat) (a : Nat) (t : State) => ∃ g : Nat → Int32, va_P (dC, dI) vwCl [(h0, .inl (k0, n, .inl f)), (a, .inl (k0, N, .inl g))] t.heap ∧ va_D A [(h0, .inl (k0, n, .inl f)), (a, .inl (k0, N, .inl g))]) A) ([.ref h0, .int p1]).toArray s 1 N A := ⟨_, rfl⟩
  show W p l e ({ frames := 1, cells := 1, slots := N, locals := 40 } : Room) s m ([.ref h0, .int p1]).toArray below meth c s.heap [] 0 0 (MQ below (va_Qr (fun (u : Nat) => u = 0) (fun (_ : Nat) (a : Nat) (t : State) => ∃ g : Nat → Int32, va_P (dC, dI) vwCl [(h0, .inl (k0, n, .inl f)), (a, .inl (k0, N, .inl g))] t.heap ∧ va_D A [(h0, .inl (k0, n, .inl f)), (a, .inl (k0, N, .inl g))]) A) ([.ref h0, .int p1]).toArray s 1 N A) (F0 m 0 ls [])
  rw [← hQQ]
  refine lv_iload_n hx hb dJ7_copyOf_59c91_0 rfl (lv_at hl 1 rfl) ?_
  refine lv_aload_n hx hb dJ7_copyOf_59c91_1 rfl (lv_at hl 0 rfl) ?_
  refine va_alen hx hb hK hP 0 0 rfl rfl rfl dJ7_copyOf_59c91_2 ?_
  refine lv_icmp_ne (tgt := 14) hx hb dJ7_copyOf_59c91_3 (by decide) (fun _ => ?_) (fun c_ => absurd c_ hne)
  refine lv_iload_n hx hb dJ7_copyOf_59c91_14 rfl (lv_at hl 1 rfl) ?_
  refine va_newa (atype := .int) hx hb (ht _ tw_296) rfl hK hP hD hS hA (a0 := (N, .inl (fun _ => 0))) (fun _ => rfl) h1 hN hB (Nat.le_of_ble_eq_true rfl) (by show 0 + N ≤ N; omega) dJ7_copyOf_59c91_15 (fun q cA H_1 hK_1 hP_1 hD_1 hS_1 => ?_)
  have hP_1 : va_P (dC, dI) vwCl [(h0, .inl (k0, n, .inl f)), (q, .inl (cA, N, .inl (fun _ => 0)))] H_1 := hP_1
  have hD_1 : va_D A [(h0, .inl (k0, n, .inl f)), (q, .inl (cA, N, .inl (fun _ => 0)))] := hD_1
  refine lv_astore_n (lv' := [(2, .ref q), (0, .ref h0), (1, .int p1)]) hx hb dJ7_copyOf_59c91_17 rfl hl (by decide) rfl (fun ls_2 hl_2 => ?_)
  refine lv_aload_n hx hb dJ7_copyOf_59c91_18 rfl (lv_at hl_2 1 rfl) ?_
  refine lv_iconst (v := 0) hx hb dJ7_copyOf_59c91_19 (by decide) ?_
  refine lv_aload_n hx hb dJ7_copyOf_59c91_20 rfl (lv_at hl_2 0 rfl) ?_
  refine lv_iconst (v := 0) hx hb dJ7_copyOf_59c91_21 (by decide) ?_
  refine lv_aload_n hx hb dJ7_copyOf_59c91_22 rfl (lv_at hl_2 1 rfl) ?_
  refine va_alen hx hb hK_1 hP_1 0 0 rfl rfl rfl dJ7_copyOf_59c91_23 ?_
  refine lv_iload_n hx hb dJ7_copyOf_59c91_24 rfl (lv_at hl_2 2 rfl) ?_
  refine va_mmin hx hb (by rw [hml]; exact hl_2.1.symm) hown (ht _ tw_1655) (ht _ tw_1114) (ht _ tw_238) (ht _ tw_1115) (by first | exact Nat.le_of_ble_eq_true rfl | (dsimp only; omega) | omega) (by first | exact Nat.le_of_ble_eq_true rfl | (dsimp only; omega) | omega) (by first | exact Nat.le_of_ble_eq_true rfl | (dsimp only; omega) | omega) (by first | exact Nat.le_of_ble_eq_true rfl | (dsimp only; omega) | omega) dJ7_copyOf_59c91_25 ?_
  refine va_copyi hx hb (by rw [hml]; exact hl_2.1.symm) hown (ht _ tw_1656) (ht _ tw_1558) (ht _ tw_1557) (ht _ tw_258) hK_1 hP_1 hD_1 hS_1 0 1 0 1 rfl rfl rfl rfl rfl (by decide) (by decide) hm1 hm2 hm3 (fun _ _ => rfl) (Nat.le_of_ble_eq_true rfl) (Nat.le_of_ble_eq_true rfl) dJ7_copyOf_59c91_28 (fun H_3 locs_3 hP_3 hD_3 hS_3 => ?_)
  refine lv_aload_n hx hb dJ7_copyOf_59c91_31 rfl (lv_at hl_2 0 rfl) ?_
  have ek : cA = k0 := va_kk hK_1 1 0 rfl rfl
  subst ek
  rw [hQQ]
  refine W_eqc (c2 := 1) (s2 := N) (Nat.zero_add 1) (Nat.zero_add N) ?_
  exact W.aret (v := .ref q) hx hb hr (Or.inr ⟨_, rfl⟩) (Or.inr ⟨_, rfl⟩) (fun t9 ht9 hW9 => ⟨⟨0, q, rfl, rfl, ⟨_, by rw [ht9]; exact hP_3, hD_3⟩⟩, hS_3.F ht9⟩) hS_3.2.2 dJ7_copyOf_59c91_32
