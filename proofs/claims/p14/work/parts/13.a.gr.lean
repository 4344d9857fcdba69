def hsum (H : Heap) : Nat := (H.toList.map (fun c => c.slots.size)).sum
theorem hsum_new {s s' : State} {locs : List Loc} {c n : Nat} (h : s.sameButNew s' locs c n) : hsum s'.heap = hsum s.heap + ((s'.heap.toList.drop s.heap.size).map (fun c => c.slots.size)).sum := by
  have e : (s'.heap.toList.take s.heap.size).map (fun c => c.slots.size) = s.heap.toList.map (fun c => c.slots.size) := by
    apply List.ext_getElem?
    intro i
    rw [List.getElem?_map, List.getElem?_map, List.getElem?_take]
    by_cases hi : i < s.heap.size
    · rw [if_pos hi]
      obtain ⟨c', h1, _, h3, _⟩ := h.2.2.2.2.2 i _ (Array.getElem?_eq_getElem hi)
      rw [Array.getElem?_toList, Array.getElem?_toList, h1, Array.getElem?_eq_getElem hi]
      exact congrArg some h3
    · rw [if_neg hi, Array.getElem?_toList, Array.getElem?_eq_none (by omega)]
  have d : s'.heap.toList = s'.heap.toList.take s.heap.size ++ s'.heap.toList.drop s.heap.size := (List.take_append_drop _ _).symm
  have f : hsum s'.heap = ((s'.heap.toList.take s.heap.size ++ s'.heap.toList.drop s.heap.size).map (fun c => c.slots.size)).sum := congrArg (fun l : List Cell => (l.map (fun c : Cell => c.slots.size)).sum) d
  rw [f, List.map_append, List.sum_append, e]; rfl
section GR
variable {p : Program} {l : Launch} {e : Env} {R : Room} {s : State} {m : MethodId} {args : Array Value} {below : List Frame} {meth : Method} {c : Code} {H : Heap} {locs : List Loc} {cells slots : Nat} {Q : State → Prop} {g : JFrame}
theorem W_gain (k : s.heap.size ≤ H.size → H.size ≤ s.heap.size + cells → hsum s.heap ≤ hsum H → hsum H ≤ hsum s.heap + slots → W p l e R s m args below meth c H locs cells slots Q g) : W p l e R s m args below meth c H locs cells slots Q g := by
  intro T hT X
  subst hT
  have a := X.same
  have b : hsum T.heap = hsum s.heap + ((T.heap.toList.drop s.heap.size).map (fun c => c.slots.size)).sum := hsum_new (s' := T.setVm s.vm) a
  have d : ((T.heap.toList.drop s.heap.size).map (fun c => c.slots.size)).sum ≤ slots := a.2.2.2.2.1
  exact k a.2.1 a.2.2.1 (by omega) (by omega) T rfl X
theorem W_narrow {c2 s2 : Nat} (h1 : H.size ≤ s.heap.size + c2) (h2 : hsum H ≤ hsum s.heap + s2) (k : W p l e R s m args below meth c H locs c2 s2 Q g) : W p l e R s m args below meth c H locs cells slots Q g := by
  intro T hT X
  subst hT
  have a := X.same
  have b : hsum T.heap = hsum s.heap + ((T.heap.toList.drop s.heap.size).map (fun c => c.slots.size)).sum := hsum_new (s' := T.setVm s.vm) a
  exact k T rfl { X with same := ⟨a.1, a.2.1, h1, a.2.2.2.1, by show ((T.heap.toList.drop s.heap.size).map (fun c => c.slots.size)).sum ≤ s2; omega, a.2.2.2.2.2⟩ }
theorem W_eqc {c2 s2 : Nat} (h1 : cells = c2) (h2 : slots = s2) (k : W p l e R s m args below meth c H locs c2 s2 Q g) : W p l e R s m args below meth c H locs cells slots Q g := by
  subst h1; subst h2; exact k
theorem W_0 {qc qs : Nat} (k : W p l e R s m args below meth c H locs (qc - qc) (qs - qs) Q g) : W p l e R s m args below meth c H locs 0 0 Q g := W_eqc (Nat.sub_self qc).symm (Nat.sub_self qs).symm k
end GR
def gLn (n1 n2 n3 qc qs : Nat) : Prop := ∃ i j : Nat, (i ≤ 8 ∧ j ≤ 8) ∧ (n1 = 1024 * 2 ^ i ∧ n2 = 1024 * 2 ^ i ∧ n3 = 1024 * 2 ^ j) ∧ qc = 2 * (8 - i) + (8 - j) ∧ qs = 2 * (524288 - 2048 * 2 ^ i) + (524288 - 2048 * 2 ^ j)
theorem gp8 {i : Nat} (h : i ≤ 8) : 2 ^ i ≤ 256 ∧ 1 ≤ 2 ^ i := ⟨Nat.pow_le_pow_right (n := 2) (by decide) h, Nat.one_le_two_pow⟩
theorem gp7 {i : Nat} (h : i ≤ 8) (hn : 1024 * 2 ^ i < 262144) : i < 8 := by
  rcases Nat.lt_or_ge i 8 with q | q
  · exact q
  · have e : i = 8 := by omega
    subst e; exact absurd hn (by decide)
theorem gLn_0 : gLn 1024 1024 1024 24 1566720 := ⟨0, 0, by decide, by decide, by decide, by decide⟩
theorem gLn_b {n1 n2 n3 qc qs : Nat} (h : gLn n1 n2 n3 qc qs) : (1024 ≤ n1 ∧ n1 ≤ 262144) ∧ n2 = n1 ∧ (1024 ≤ n3 ∧ n3 ≤ 262144) ∧ qc ≤ 24 ∧ qs ≤ 1566720 := by
  obtain ⟨i, j, ⟨i1, j1⟩, ⟨e1, e2, e3⟩, e4, e5⟩ := h
  have a := gp8 i1
  have b := gp8 j1
  omega
theorem gLn_c {n1 n2 n3 qc qs : Nat} (h : gLn n1 n2 n3 qc qs) (hn : n1 < 262144) : gLn (2 * n1) (2 * n2) n3 (qc - 2) (qs - 4 * n1) ∧ 2 ≤ qc ∧ 4 * n1 ≤ qs := by
  obtain ⟨i, j, ⟨i1, j1⟩, ⟨e1, e2, e3⟩, e4, e5⟩ := h
  have i2 := gp7 i1 (by omega)
  have a := gp8 (show i + 1 ≤ 8 by omega)
  have b := gp8 j1
  have d : 2 ^ (i + 1) = 2 * 2 ^ i := by rw [Nat.pow_succ, Nat.mul_comm]
  rw [d] at a
  refine ⟨⟨i + 1, j, ⟨by omega, j1⟩, ⟨by rw [d]; omega, by rw [d]; omega, e3⟩, by omega, by rw [d]; omega⟩, by omega, by omega⟩
theorem gLn_t {n1 n2 n3 qc qs : Nat} (h : gLn n1 n2 n3 qc qs) (hn : n3 < 262144) : gLn n1 n2 (2 * n3) (qc - 1) (qs - 2 * n3) ∧ 1 ≤ qc ∧ 2 * n3 ≤ qs := by
  obtain ⟨i, j, ⟨i1, j1⟩, ⟨e1, e2, e3⟩, e4, e5⟩ := h
  have j2 := gp7 j1 (by omega)
  have a := gp8 i1
  have b := gp8 (show j + 1 ≤ 8 by omega)
  have d : 2 ^ (j + 1) = 2 * 2 ^ j := by rw [Nat.pow_succ, Nat.mul_comm]
  rw [d] at b
  refine ⟨⟨i, j + 1, ⟨i1, by omega⟩, ⟨e1, e2, by rw [d]; omega⟩, by omega, by rw [d]; omega⟩, by omega, by omega⟩
theorem cpy_ok {n N : Nat} {x : Int32} (hx : x.toNatClampNeg = N) (h0 : ¬ x < 0) (hn : n < N) (hN : N ≤ 524288) : (¬ x = Int32.ofNat n) ∧ (¬ (if x < Int32.ofNat n then x else Int32.ofNat n) < 0) ∧ ((0 : Int32).toNatClampNeg + (if x < Int32.ofNat n then x else Int32.ofNat n).toNatClampNeg ≤ n) ∧ ((0 : Int32).toNatClampNeg + (if x < Int32.ofNat n then x else Int32.ofNat n).toNatClampNeg ≤ N) := by
  have e1 : (Int32.ofNat n).toInt = (n : Int) := nI_toInt (by omega)
  have z0 : (0 : Int32).toInt = 0 := rfl
  have c0 : (0 : Int32).toNatClampNeg = 0 := rfl
  rw [Int32.lt_iff_toInt_lt] at h0
  have hx2 : x.toInt.toNat = N := hx
  have ge : ¬ x < Int32.ofNat n := by rw [Int32.lt_iff_toInt_lt]; omega
  have cn : (Int32.ofNat n).toNatClampNeg = n := by show (Int32.ofNat n).toInt.toNat = n; omega
  rw [if_neg ge, c0, cn]
  refine ⟨fun e => ?_, ?_, by omega, by omega⟩
  · rw [e] at hx2; omega
  · rw [Int32.lt_iff_toInt_lt]; omega
theorem i_cln {x : Int32} {m : Nat} (h : x.toInt = (m : Int)) : x.toNatClampNeg = m := by show x.toInt.toNat = m; omega
