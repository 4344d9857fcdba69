theorem gapp {α : Type} {l r : List α} {i : Nat} {x : α} (h : l[i]? = some x) : (l ++ r)[i]? = some x := by
  rw [List.getElem?_append_left (List.getElem?_eq_some_iff.mp h).1]; exact h
section MK
variable {p : Program} {l : Launch} {e : Env} {R : Room} {s : State} {m : MethodId} {args : Array Value} {below : List Frame} {meth : Method} {c : Code} {H : Heap} {locs : List Loc} {cells slots : Nat} {Q : State → Prop} {cc : ByteArray} {pc : Nat} {ls : Array Slot} {rest : List Value} {D : va_G} {A : Nat → Prop} {h0 : Nat} {fs : List Value} {rs : va_W} {tys : List (ClassId × FieldType)}
/-- newarray; putfield of a final field of the reference: the row stays in the world -/
theorem mkk (hx : p.tables.exec = Jvm.exec) (hb : c.code = cc) (ht : ∀ w ∈ TW, w.before args s = true) (hown : s.vm.findClass "PatternWorkshopModel" = some m.cls) (hin : meth.name = "<init>") (hA : ∀ q, s.heap.size ≤ q → A q)
    (hlen : fs.length = 143) (hK : va_K D vwCl tys s) (hP : va_P D vwCl ((h0, .inr (15, fs)) :: rs) H) (hD : va_D A ((h0, .inr (15, fs)) :: rs)) (hS : va_S A s.heap H locs)
    {atype : ArrayType} (ty : FieldType) (hty : newarray.typeOf atype = ty) (harr : Cond.arrayClass (newarray.typeOf atype) ∈ TW) {n : Int32} {N : Nat} {a0 : vp_A} (ha : ∀ cA : ClassId, vp_cell cA a0 = arrV cA N (fun _ => defaultValue ty)) (hn : ¬ n < 0) (hN : n.toNatClampNeg = N) (hbytes : N * componentBytes ty ≤ 536870912) (hcells : cells + 1 ≤ R.cells) (hslots : slots + N ≤ R.slots)
    (k : Nat) (hk : k < 143) {index : Nat} {fn fd : String} (hT : TX12 k = ("PatternWorkshopModel", fn, fd, true)) (hlink : Cond.fieldLink "PatternWorkshopModel" index "PatternWorkshopModel" fn fd ∈ TW) (hd : parseFieldDescriptor fd = some (.array ty))
    (d1 : decode cc pc = .ok (.newarray atype, 2)) (d2 : decode cc (pc + 2) = .ok (.putfield index, 3))
    (kk : ∀ (q : Nat) (cA : ClassId) (H1 : Heap) (locs1 : List Loc), (fs.set k (.ref q)).length = 143 → va_K D vwCl (tys ++ [(cA, ty)]) s → va_P D vwCl ((h0, .inr (15, fs.set k (.ref q))) :: (rs ++ [(q, .inl (cA, a0))])) H1 → va_D A ((h0, .inr (15, fs.set k (.ref q))) :: (rs ++ [(q, .inl (cA, a0))])) → va_S A s.heap H1 locs1 → W p l e R s m args below meth c H1 locs1 (cells + 1) (slots + N) Q (F0 m (pc + 5) ls rest)) :
    W p l e R s m args below meth c H locs cells slots Q (F0 m pc ls (.int n :: .ref h0 :: rest)) := by
  refine va_newa (atype := atype) hx hb (ht _ harr) hty hK hP hD hS hA (a0 := a0) ha hn hN hbytes hcells hslots d1 (fun q cA H1 hK1 hP1 hD1 hS1 => ?_)
  refine va_putF (D := D) (ci := 15) (v := .ref q) (ty := .array ty) (C := RX12) (T := TX12) (N := 143) hx hb ht inX12 tyX12 tyX12_ok nmX12 hown hK1 hP1 hD1 hS1 0 rfl rfl k hk (by rw [hT]; exact ht _ hlink) (by rw [hT]; exact fun _ h9 => h9) (by rw [hT]) hin (by rw [hT]) (by rw [hT]; exact hd) rfl rfl (by rw [hlen]; exact hk) d2 (fun H2 locs2 hP2 hD2 hS2 => ?_)
  exact kk q cA H2 locs2 (by rw [List.length_set]; exact hlen) hK1 hP2 hD2 hS2
/-- the same, the row forgotten -/
theorem mkd (hx : p.tables.exec = Jvm.exec) (hb : c.code = cc) (ht : ∀ w ∈ TW, w.before args s = true) (hown : s.vm.findClass "PatternWorkshopModel" = some m.cls) (hin : meth.name = "<init>") (hA : ∀ q, s.heap.size ≤ q → A q)
    (hlen : fs.length = 143) (hK : va_K D vwCl tys s) (hP : va_P D vwCl ((h0, .inr (15, fs)) :: rs) H) (hD : va_D A ((h0, .inr (15, fs)) :: rs)) (hS : va_S A s.heap H locs)
    {atype : ArrayType} (ty : FieldType) (hty : newarray.typeOf atype = ty) (harr : Cond.arrayClass (newarray.typeOf atype) ∈ TW) {n : Int32} {N : Nat} {a0 : vp_A} (ha : ∀ cA : ClassId, vp_cell cA a0 = arrV cA N (fun _ => defaultValue ty)) (hn : ¬ n < 0) (hN : n.toNatClampNeg = N) (hbytes : N * componentBytes ty ≤ 536870912) (hcells : cells + 1 ≤ R.cells) (hslots : slots + N ≤ R.slots)
    (k : Nat) (hk : k < 143) {index : Nat} {fn fd : String} (hT : TX12 k = ("PatternWorkshopModel", fn, fd, true)) (hlink : Cond.fieldLink "PatternWorkshopModel" index "PatternWorkshopModel" fn fd ∈ TW) (hd : parseFieldDescriptor fd = some (.array ty))
    (d1 : decode cc pc = .ok (.newarray atype, 2)) (d2 : decode cc (pc + 2) = .ok (.putfield index, 3))
    (kk : ∀ (q : Nat) (H1 : Heap) (locs1 : List Loc), (fs.set k (.ref q)).length = 143 → va_P D vwCl ((h0, .inr (15, fs.set k (.ref q))) :: rs) H1 → va_D A ((h0, .inr (15, fs.set k (.ref q))) :: rs) → va_S A s.heap H1 locs1 → W p l e R s m args below meth c H1 locs1 (cells + 1) (slots + N) Q (F0 m (pc + 5) ls rest)) :
    W p l e R s m args below meth c H locs cells slots Q (F0 m pc ls (.int n :: .ref h0 :: rest)) := by
  refine mkk hx hb ht hown hin hA hlen hK hP hD hS ty hty harr ha hn hN hbytes hcells hslots k hk hT hlink hd d1 d2 (fun q cA H1 locs1 h1 hK1 hP1 hD1 hS1 => kk q H1 locs1 h1 ?_ ?_ hS1)
  · intro i x hi
    refine hP1 i x ?_
    cases i with
    | zero => exact hi
    | succ i => exact gapp hi
  · refine ⟨fun i j x y hi hj he => hD1.1 i j x y ?_ ?_ he, fun i x hi => hD1.2 i x ?_⟩
    · cases i with
      | zero => exact hi
      | succ i => exact gapp hi
    · cases j with
      | zero => exact hj
      | succ j => exact gapp hj
    · cases i with
      | zero => exact hi
      | succ i => exact gapp hi
/-- putfield of an int field of the reference -/
theorem mki (hx : p.tables.exec = Jvm.exec) (hb : c.code = cc) (ht : ∀ w ∈ TW, w.before args s = true) (hown : s.vm.findClass "PatternWorkshopModel" = some m.cls)
    (hlen : fs.length = 143) (hK : va_K D vwCl tys s) (hP : va_P D vwCl ((h0, .inr (15, fs)) :: rs) H) (hD : va_D A ((h0, .inr (15, fs)) :: rs)) (hS : va_S A s.heap H locs) {v : Int32}
    (k : Nat) (hk : k < 143) {index : Nat} {fn : String} (hT : TX12 k = ("PatternWorkshopModel", fn, "I", false)) (hlink : Cond.fieldLink "PatternWorkshopModel" index "PatternWorkshopModel" fn "I" ∈ TW)
    (d2 : decode cc pc = .ok (.putfield index, 3))
    (kk : ∀ (H1 : Heap) (locs1 : List Loc), (fs.set k (.int v)).length = 143 → va_P D vwCl ((h0, .inr (15, fs.set k (.int v))) :: rs) H1 → va_D A ((h0, .inr (15, fs.set k (.int v))) :: rs) → va_S A s.heap H1 locs1 → W p l e R s m args below meth c H1 locs1 cells slots Q (F0 m (pc + 3) ls rest)) :
    W p l e R s m args below meth c H locs cells slots Q (F0 m pc ls (.int v :: .ref h0 :: rest)) := by
  refine va_put (D := D) (ci := 15) (v := .int v) (ty := .int) (C := RX12) (T := TX12) (N := 143) hx hb ht inX12 tyX12 tyX12_ok nmX12 hown hK hP hD hS 0 rfl rfl k hk (by rw [hT]; exact ht _ hlink) (by rw [hT]; exact fun _ h9 => h9) (by rw [hT]) (by rw [hT]; decide +kernel) rfl rfl (by rw [hlen]; exact hk) d2 (fun H2 locs2 hP2 hD2 hS2 => ?_)
  exact kk H2 locs2 (by rw [List.length_set]; exact hlen) hP2 hD2 hS2
end MK
theorem tt12_2 : TX12 2 = ("PatternWorkshopModel", "tape", "[I", true) := rfl
theorem tt12_4 : TX12 4 = ("PatternWorkshopModel", "faultPlace", "I", false) := rfl
theorem tt12_5 : TX12 5 = ("PatternWorkshopModel", "isThere", "[Z", true) := rfl
theorem tt12_6 : TX12 6 = ("PatternWorkshopModel", "many", "[I", true) := rfl
theorem tt12_7 : TX12 7 = ("PatternWorkshopModel", "captures", "[I", true) := rfl
theorem tt12_8 : TX12 8 = ("PatternWorkshopModel", "nameOf", "[I", true) := rfl
theorem tt12_9 : TX12 9 = ("PatternWorkshopModel", "sort", "[I", true) := rfl
theorem tt12_10 : TX12 10 = ("PatternWorkshopModel", "value", "[I", true) := rfl
theorem tt12_11 : TX12 11 = ("PatternWorkshopModel", "least", "[I", true) := rfl
theorem tt12_12 : TX12 12 = ("PatternWorkshopModel", "most", "[I", true) := rfl
theorem tt12_13 : TX12 13 = ("PatternWorkshopModel", "holder", "[I", true) := rfl
theorem tt12_14 : TX12 14 = ("PatternWorkshopModel", "parts", "[I", true) := rfl
theorem tt12_15 : TX12 15 = ("PatternWorkshopModel", "end", "[I", true) := rfl
theorem tt12_16 : TX12 16 = ("PatternWorkshopModel", "size", "[I", true) := rfl
theorem tt12_17 : TX12 17 = ("PatternWorkshopModel", "positions", "[I", true) := rfl
theorem tt12_18 : TX12 18 = ("PatternWorkshopModel", "firstPart", "[I", true) := rfl
theorem tt12_19 : TX12 19 = ("PatternWorkshopModel", "mayEmpty", "[Z", true) := rfl
theorem tt12_20 : TX12 20 = ("PatternWorkshopModel", "inCase", "[Z", true) := rfl
theorem tt12_21 : TX12 21 = ("PatternWorkshopModel", "partBegin", "[I", true) := rfl
theorem tt12_22 : TX12 22 = ("PatternWorkshopModel", "partEnd", "[I", true) := rfl
theorem tt12_23 : TX12 23 = ("PatternWorkshopModel", "newSort", "[I", true) := rfl
theorem tt12_24 : TX12 24 = ("PatternWorkshopModel", "newValue", "[I", true) := rfl
theorem tt12_25 : TX12 25 = ("PatternWorkshopModel", "newLeast", "[I", true) := rfl
theorem tt12_26 : TX12 26 = ("PatternWorkshopModel", "newMost", "[I", true) := rfl
theorem tt12_27 : TX12 27 = ("PatternWorkshopModel", "newFirst", "[I", true) := rfl
theorem tt12_28 : TX12 28 = ("PatternWorkshopModel", "newNext", "[I", true) := rfl
theorem tt12_29 : TX12 29 = ("PatternWorkshopModel", "newMany", "[I", true) := rfl
theorem tt12_30 : TX12 30 = ("PatternWorkshopModel", "newPart", "[I", true) := rfl
theorem tt12_32 : TX12 32 = ("PatternWorkshopModel", "newBegin", "[I", true) := rfl
theorem tt12_33 : TX12 33 = ("PatternWorkshopModel", "newEnd", "[I", true) := rfl
theorem tt12_40 : TX12 40 = ("PatternWorkshopModel", "newNames", "[I", true) := rfl
theorem tt12_42 : TX12 42 = ("PatternWorkshopModel", "groupSort", "[I", true) := rfl
theorem tt12_43 : TX12 43 = ("PatternWorkshopModel", "groupValue", "[I", true) := rfl
theorem tt12_44 : TX12 44 = ("PatternWorkshopModel", "rowFirst", "[I", true) := rfl
theorem tt12_45 : TX12 45 = ("PatternWorkshopModel", "rowLast", "[I", true) := rfl
theorem tt12_46 : TX12 46 = ("PatternWorkshopModel", "rowMany", "[I", true) := rfl
theorem tt12_47 : TX12 47 = ("PatternWorkshopModel", "rowsFirst", "[I", true) := rfl
theorem tt12_48 : TX12 48 = ("PatternWorkshopModel", "rowsLast", "[I", true) := rfl
theorem tt12_49 : TX12 49 = ("PatternWorkshopModel", "rowsMany", "[I", true) := rfl
theorem tt12_54 : TX12 54 = ("PatternWorkshopModel", "waiting", "[I", true) := rfl
theorem tt12_55 : TX12 55 = ("PatternWorkshopModel", "waitingHolder", "[I", true) := rfl
theorem tt12_56 : TX12 56 = ("PatternWorkshopModel", "printed", "[I", true) := rfl
theorem tt12_58 : TX12 58 = ("PatternWorkshopModel", "printedAlso", "[I", true) := rfl
theorem tt12_60 : TX12 60 = ("PatternWorkshopModel", "out", "[I", true) := rfl
theorem tt12_63 : TX12 63 = ("PatternWorkshopModel", "begun", "[Z", true) := rfl
theorem tt12_64 : TX12 64 = ("PatternWorkshopModel", "isBound", "[Z", true) := rfl
theorem tt12_65 : TX12 65 = ("PatternWorkshopModel", "bounds", "[I", true) := rfl
theorem tt12_67 : TX12 67 = ("PatternWorkshopModel", "isRisky", "[Z", true) := rfl
theorem tt12_68 : TX12 68 = ("PatternWorkshopModel", "isSubject", "[Z", true) := rfl
theorem tt12_69 : TX12 69 = ("PatternWorkshopModel", "long0", "[I", true) := rfl
theorem tt12_70 : TX12 70 = ("PatternWorkshopModel", "signs", "[I", true) := rfl
theorem tt12_71 : TX12 71 = ("PatternWorkshopModel", "act", "[I", true) := rfl
theorem tt12_72 : TX12 72 = ("PatternWorkshopModel", "actA", "[I", true) := rfl
theorem tt12_73 : TX12 73 = ("PatternWorkshopModel", "actB", "[I", true) := rfl
theorem tt12_75 : TX12 75 = ("PatternWorkshopModel", "labelAt", "[I", true) := rfl
theorem tt12_77 : TX12 77 = ("PatternWorkshopModel", "task", "[I", true) := rfl
theorem tt12_78 : TX12 78 = ("PatternWorkshopModel", "taskA", "[I", true) := rfl
theorem tt12_79 : TX12 79 = ("PatternWorkshopModel", "taskB", "[I", true) := rfl
theorem tt12_81 : TX12 81 = ("PatternWorkshopModel", "held", "[I", true) := rfl
theorem tt12_82 : TX12 82 = ("PatternWorkshopModel", "reg", "[I", true) := rfl
theorem tt12_83 : TX12 83 = ("PatternWorkshopModel", "trailOf", "[I", true) := rfl
theorem tt12_84 : TX12 84 = ("PatternWorkshopModel", "trailOld", "[I", true) := rfl
theorem tt12_86 : TX12 86 = ("PatternWorkshopModel", "choiceSort", "[I", true) := rfl
theorem tt12_87 : TX12 87 = ("PatternWorkshopModel", "choiceAct", "[I", true) := rfl
theorem tt12_88 : TX12 88 = ("PatternWorkshopModel", "choicePlace", "[I", true) := rfl
theorem tt12_89 : TX12 89 = ("PatternWorkshopModel", "choiceTrail", "[I", true) := rfl
theorem tt12_99 : TX12 99 = ("PatternWorkshopModel", "seen", "[I", true) := rfl
theorem tt12_101 : TX12 101 = ("PatternWorkshopModel", "found", "[I", true) := rfl
theorem tt12_107 : TX12 107 = ("PatternWorkshopModel", "span", "[I", true) := rfl
theorem tt12_110 : TX12 110 = ("PatternWorkshopModel", "finds", "[I", true) := rfl
theorem tt12_112 : TX12 112 = ("PatternWorkshopModel", "madeSigns", "[I", true) := rfl
theorem tt12_114 : TX12 114 = ("PatternWorkshopModel", "follows", "[J", true) := rfl
theorem tt12_115 : TX12 115 = ("PatternWorkshopModel", "endsAfter", "[Z", true) := rfl
theorem tt12_117 : TX12 117 = ("PatternWorkshopModel", "eaterOf", "[I", true) := rfl
theorem tt12_118 : TX12 118 = ("PatternWorkshopModel", "eaterNode", "[I", true) := rfl
theorem tt12_119 : TX12 119 = ("PatternWorkshopModel", "isGone", "[Z", true) := rfl
theorem tt12_120 : TX12 120 = ("PatternWorkshopModel", "walk", "[I", true) := rfl
theorem tt12_123 : TX12 123 = ("PatternWorkshopModel", "states", "[I", true) := rfl
theorem tt12_124 : TX12 124 = ("PatternWorkshopModel", "stateSet", "[J", true) := rfl
theorem tt12_125 : TX12 125 = ("PatternWorkshopModel", "isTaken", "[Z", true) := rfl
theorem tt12_126 : TX12 126 = ("PatternWorkshopModel", "isLive", "[Z", true) := rfl
theorem tt12_127 : TX12 127 = ("PatternWorkshopModel", "classes", "[I", true) := rfl
theorem tt12_128 : TX12 128 = ("PatternWorkshopModel", "classTakes", "[J", true) := rfl
theorem tt12_129 : TX12 129 = ("PatternWorkshopModel", "classOf", "[I", true) := rfl
theorem tt12_130 : TX12 130 = ("PatternWorkshopModel", "leads", "[I", true) := rfl
theorem tt12_131 : TX12 131 = ("PatternWorkshopModel", "group", "[I", true) := rfl
theorem tt12_132 : TX12 132 = ("PatternWorkshopModel", "newGroup", "[I", true) := rfl
theorem tt12_133 : TX12 133 = ("PatternWorkshopModel", "pairA", "[I", true) := rfl
theorem tt12_134 : TX12 134 = ("PatternWorkshopModel", "pairB", "[I", true) := rfl
theorem tt12_135 : TX12 135 = ("PatternWorkshopModel", "pairFrom", "[I", true) := rfl
theorem tt12_136 : TX12 136 = ("PatternWorkshopModel", "pairSign", "[I", true) := rfl
theorem tt12_137 : TX12 137 = ("PatternWorkshopModel", "isPair", "[Z", true) := rfl
theorem tt12_139 : TX12 139 = ("PatternWorkshopModel", "sortA", "[I", true) := rfl
theorem tt12_140 : TX12 140 = ("PatternWorkshopModel", "sortB", "[I", true) := rfl
theorem tt12_141 : TX12 141 = ("PatternWorkshopModel", "sortSign", "[I", true) := rfl
set_option maxHeartbeats 4000000 in
set_option maxRecDepth 100000 in
theorem mt_X12_init (l : Launch) (dC : Nat → ClassId) (dI : Nat → Nat → Nat) (h0 : Nat) (sz : Nat) : Met l yX12_init (WS yX12_init cX12_init 1 none) ({ frames := 1, cells := 94, slots := 1386825, locals := 12 }) (va_Pc [.ref h0] (fun U => U.heap.size = sz ∧ va_P (dC, dI) vwCl [(h0, .inr (15, [.int 0, .int 0, .null, .int 0, .int 0, .null, .null, .null, .null, .null, .null, .null, .null, .null, .null, .null, .null, .null, .null, .null, .null, .null, .null, .null, .null, .null, .null, .null, .null, .null, .null, .int 0, .null, .null, .int 0, .int 0, .int 0, .int 0, .int 0, .int 0, .null, .int 0, .null, .null, .null, .null, .null, .null, .null, .null, .int 0, .int 0, .int 0, .int 0, .null, .null, .null, .int 0, .null, .int 0, .null, .int 0, .int 0, .null, .null, .null, .int 0, .null, .null, .null, .null, .null, .null, .null, .int 0, .null, .int 0, .null, .null, .null, .int 0, .null, .null, .null, .null, .int 0, .null, .null, .null, .null, .int 0, .int 0, .int 0, .int 0, .int 0, .int 0, .int 0, .int 0, .int 0, .null, .int 0, .null, .int 0, .int 0, .int 0, .int 0, .int 0, .null, .int 0, .int 0, .null, .int 0, .null, .int 0, .null, .null, .int 0, .null, .null, .null, .null, .long 0, .int 0, .null, .null, .null, .null, .null, .null, .null, .null, .null, .null, .null, .null, .null, .null, .null, .int 0, .null, .null, .null, .int 0]))] U.heap ∧ va_K (dC, dI) vwCl [] U ∧ va_D (fun _ => True) [(h0, .inr (15, [.int 0, .int 0, .null, .int 0, .int 0, .null, .null, .null, .null, .null, .null, .null, .null, .null, .null, .null, .null, .null, .null, .null, .null, .null, .null, .null, .null, .null, .null, .null, .null, .null, .null, .int 0, .null, .null, .int 0, .int 0, .int 0, .int 0, .int 0, .int 0, .null, .int 0, .null, .null, .null, .null, .null, .null, .null, .null, .int 0, .int 0, .int 0, .int 0, .null, .null, .null, .int 0, .null, .int 0, .null, .int 0, .int 0, .null, .null, .null, .int 0, .null, .null, .null, .null, .null, .null, .null, .int 0, .null, .int 0, .null, .null, .null, .int 0, .null, .null, .null, .null, .int 0, .null, .null, .null, .null, .int 0, .int 0, .int 0, .int 0, .int 0, .int 0, .int 0, .int 0, .int 0, .null, .int 0, .null, .int 0, .int 0, .int 0, .int 0, .int 0, .null, .int 0, .int 0, .null, .int 0, .null, .int 0, .null, .null, .int 0, .null, .null, .null, .null, .long 0, .int 0, .null, .null, .null, .null, .null, .null, .null, .null, .null, .null, .null, .null, .null, .null, .null, .int 0, .null, .null, .null, .int 0]))])) (va_Qv (fun (u : Nat) => (u = 0)) (fun (_ : Nat) (t : State) => (∃ (q_1 : Nat), ∃ (q_4 : Nat), ∃ (q_6 : Nat), ∃ (q_8 : Nat), ∃ (q_10 : Nat), ∃ (q_12 : Nat), ∃ (q_14 : Nat), ∃ (q_16 : Nat), ∃ (q_18 : Nat), ∃ (q_20 : Nat), ∃ (q_22 : Nat), ∃ (q_24 : Nat), ∃ (q_26 : Nat), ∃ (q_28 : Nat), ∃ (q_30 : Nat), ∃ (q_32 : Nat), ∃ (q_34 : Nat), ∃ (q_36 : Nat), ∃ (q_39 : Nat), ∃ (q_42 : Nat), ∃ (q_44 : Nat), ∃ (q_46 : Nat), ∃ (q_48 : Nat), ∃ (q_50 : Nat), ∃ (q_52 : Nat), ∃ (q_54 : Nat), ∃ (q_56 : Nat), ∃ (q_58 : Nat), ∃ (q_61 : Nat), ∃ (q_64 : Nat), ∃ (q_67 : Nat), ∃ (q_69 : Nat), ∃ (q_71 : Nat), ∃ (q_73 : Nat), ∃ (q_75 : Nat), ∃ (q_77 : Nat), ∃ (q_79 : Nat), ∃ (q_81 : Nat), ∃ (q_83 : Nat), ∃ (q_85 : Nat), ∃ (q_87 : Nat), ∃ (q_90 : Nat), ∃ (q_93 : Nat), ∃ (q_96 : Nat), ∃ (q_99 : Nat), ∃ (q_102 : Nat), ∃ (q_105 : Nat), ∃ (q_108 : Nat), ∃ (q_110 : Nat), ∃ (q_112 : Nat), ∃ (q_114 : Nat), ∃ (q_117 : Nat), ∃ (q_120 : Nat), ∃ (q_123 : Nat), ∃ (q_126 : Nat), ∃ (q_129 : Nat), ∃ (q_132 : Nat), ∃ (q_135 : Nat), ∃ (q_138 : Nat), ∃ (q_141 : Nat), ∃ (q_144 : Nat), ∃ (q_147 : Nat), ∃ (q_150 : Nat), ∃ (q_153 : Nat), ∃ (q_156 : Nat), ∃ (q_159 : Nat), ∃ (q_162 : Nat), ∃ (q_165 : Nat), ∃ (q_168 : Nat), ∃ (q_171 : Nat), ∃ (q_174 : Nat), ∃ (q_177 : Nat), ∃ (q_180 : Nat), ∃ (q_183 : Nat), ∃ (q_186 : Nat), ∃ (q_189 : Nat), ∃ (q_192 : Nat), ∃ (q_195 : Nat), ∃ (q_198 : Nat), ∃ (q_201 : Nat), ∃ (q_204 : Nat), ∃ (q_207 : Nat), ∃ (q_210 : Nat), ∃ (q_213 : Nat), ∃ (q_216 : Nat), ∃ (q_219 : Nat), ∃ (q_222 : Nat), ∃ (q_225 : Nat), ∃ (q_228 : Nat), ∃ (q_231 : Nat), ∃ (q_234 : Nat), ∃ (q_237 : Nat), ∃ (q_240 : Nat), ∃ (q_243 : Nat), ∃ (k_1 : ClassId), ∃ (k_4 : ClassId), ∃ (k_6 : ClassId), ∃ (k_8 : ClassId), ∃ (k_10 : ClassId), ∃ (k_12 : ClassId), ∃ (k_14 : ClassId), ∃ (k_16 : ClassId), ∃ (k_18 : ClassId), ∃ (k_20 : ClassId), ∃ (k_22 : ClassId), ∃ (k_24 : ClassId), ∃ (k_26 : ClassId), ∃ (k_28 : ClassId), ∃ (k_30 : ClassId), ∃ (k_32 : ClassId), ∃ (k_34 : ClassId), ∃ (k_42 : ClassId), ∃ (k_44 : ClassId), ∃ (k_46 : ClassId), ∃ (k_48 : ClassId), ∃ (k_50 : ClassId), ∃ (k_52 : ClassId), ∃ (k_54 : ClassId), ∃ (k_56 : ClassId), ∃ (k_67 : ClassId), ∃ (k_69 : ClassId), ∃ (k_71 : ClassId), ∃ (k_73 : ClassId), ∃ (k_75 : ClassId), ∃ (k_77 : ClassId), ∃ (k_79 : ClassId), ∃ (k_81 : ClassId), ∃ (k_83 : ClassId), ∃ (k_85 : ClassId), ∃ (k_108 : ClassId), ∃ (k_110 : ClassId), ∃ (k_112 : ClassId), va_P (dC, dI) vwCl [(h0, .inr (15, [.int 0, .int 0, .ref q_1, .int 0, .int (-1), .ref q_4, .ref q_6, .ref q_8, .ref q_10, .ref q_12, .ref q_14, .ref q_16, .ref q_18, .ref q_20, .ref q_22, .ref q_24, .ref q_26, .ref q_28, .ref q_30, .ref q_32, .ref q_34, .ref q_36, .ref q_39, .ref q_42, .ref q_44, .ref q_46, .ref q_48, .ref q_50, .ref q_52, .ref q_54, .ref q_56, .int 0, .ref q_58, .ref q_61, .int 0, .int 0, .int 0, .int 0, .int 0, .int 0, .ref q_64, .int 0, .ref q_67, .ref q_69, .ref q_71, .ref q_73, .ref q_75, .ref q_77, .ref q_79, .ref q_81, .int 0, .int 0, .int 0, .int 0, .ref q_83, .ref q_85, .ref q_87, .int 0, .ref q_90, .int 0, .ref q_93, .int 0, .int 0, .ref q_96, .ref q_99, .ref q_102, .int 0, .ref q_105, .ref q_108, .ref q_110, .ref q_112, .ref q_114, .ref q_117, .ref q_120, .int 0, .ref q_123, .int 0, .ref q_126, .ref q_129, .ref q_132, .int 0, .ref q_135, .ref q_138, .ref q_141, .ref q_144, .int 0, .ref q_147, .ref q_150, .ref q_153, .ref q_156, .int 0, .int 0, .int 0, .int 0, .int 0, .int 0, .int 0, .int 0, .int 0, .ref q_159, .int 0, .ref q_162, .int 0, .int 0, .int 0, .int 0, .int 0, .ref q_165, .int 0, .int 0, .ref q_168, .int 0, .ref q_171, .int 0, .ref q_174, .ref q_177, .int 0, .ref q_180, .ref q_183, .ref q_186, .ref q_189, .long 0, .int 0, .ref q_192, .ref q_195, .ref q_198, .ref q_201, .ref q_204, .ref q_207, .ref q_210, .ref q_213, .ref q_216, .ref q_219, .ref q_222, .ref q_225, .ref q_228, .ref q_231, .ref q_234, .int 0, .ref q_237, .ref q_240, .ref q_243, .int 0])), (q_1, .inl (k_1, 200, .inl (fun _ => 0))), (q_4, .inl (k_4, 6, .inl (fun _ => 0))), (q_6, .inl (k_6, 6, .inl (fun _ => 0))), (q_8, .inl (k_8, 6, .inl (fun _ => 0))), (q_10, .inl (k_10, 60, .inl (fun _ => 0))), (q_12, .inl (k_12, 1320, .inl (fun _ => 0))), (q_14, .inl (k_14, 1320, .inl (fun _ => 0))), (q_16, .inl (k_16, 1320, .inl (fun _ => 0))), (q_18, .inl (k_18, 1320, .inl (fun _ => 0))), (q_20, .inl (k_20, 1320, .inl (fun _ => 0))), (q_22, .inl (k_22, 1320, .inl (fun _ => 0))), (q_24, .inl (k_24, 1320, .inl (fun _ => 0))), (q_26, .inl (k_26, 1320, .inl (fun _ => 0))), (q_28, .inl (k_28, 1320, .inl (fun _ => 0))), (q_30, .inl (k_30, 1320, .inl (fun _ => 0))), (q_32, .inl (k_32, 1320, .inl (fun _ => 0))), (q_34, .inl (k_34, 1320, .inl (fun _ => 0))), (q_42, .inl (k_42, 260, .inl (fun _ => 0))), (q_44, .inl (k_44, 260, .inl (fun _ => 0))), (q_46, .inl (k_46, 260, .inl (fun _ => 0))), (q_48, .inl (k_48, 260, .inl (fun _ => 0))), (q_50, .inl (k_50, 260, .inl (fun _ => 0))), (q_52, .inl (k_52, 260, .inl (fun _ => 0))), (q_54, .inl (k_54, 260, .inl (fun _ => 0))), (q_56, .inl (k_56, 260, .inl (fun _ => 0))), (q_67, .inl (k_67, 12, .inl (fun _ => 0))), (q_69, .inl (k_69, 12, .inl (fun _ => 0))), (q_71, .inl (k_71, 12, .inl (fun _ => 0))), (q_73, .inl (k_73, 12, .inl (fun _ => 0))), (q_75, .inl (k_75, 12, .inl (fun _ => 0))), (q_77, .inl (k_77, 12, .inl (fun _ => 0))), (q_79, .inl (k_79, 12, .inl (fun _ => 0))), (q_81, .inl (k_81, 12, .inl (fun _ => 0))), (q_83, .inl (k_83, 520, .inl (fun _ => 0))), (q_85, .inl (k_85, 520, .inl (fun _ => 0))), (q_108, .inl (k_108, 4, .inl (fun _ => 0))), (q_110, .inl (k_110, 4, .inl (fun _ => 0))), (q_112, .inl (k_112, 400, .inl (fun _ => 0)))] t.heap ∧ va_K (dC, dI) vwCl [(k_1, .int), (k_4, .boolean), (k_6, .int), (k_8, .int), (k_10, .int), (k_12, .int), (k_14, .int), (k_16, .int), (k_18, .int), (k_20, .int), (k_22, .int), (k_24, .int), (k_26, .int), (k_28, .int), (k_30, .int), (k_32, .boolean), (k_34, .boolean), (k_42, .int), (k_44, .int), (k_46, .int), (k_48, .int), (k_50, .int), (k_52, .int), (k_54, .int), (k_56, .int), (k_67, .int), (k_69, .int), (k_71, .int), (k_73, .int), (k_75, .int), (k_77, .int), (k_79, .int), (k_81, .int), (k_83, .int), (k_85, .int), (k_108, .boolean), (k_110, .int), (k_112, .int)] t ∧ va_D (va_A [(h0, .inr (15, [.int 0, .int 0, .null, .int 0, .int 0, .null, .null, .null, .null, .null, .null, .null, .null, .null, .null, .null, .null, .null, .null, .null, .null, .null, .null, .null, .null, .null, .null, .null, .null, .null, .null, .int 0, .null, .null, .int 0, .int 0, .int 0, .int 0, .int 0, .int 0, .null, .int 0, .null, .null, .null, .null, .null, .null, .null, .null, .int 0, .int 0, .int 0, .int 0, .null, .null, .null, .int 0, .null, .int 0, .null, .int 0, .int 0, .null, .null, .null, .int 0, .null, .null, .null, .null, .null, .null, .null, .int 0, .null, .int 0, .null, .null, .null, .int 0, .null, .null, .null, .null, .int 0, .null, .null, .null, .null, .int 0, .int 0, .int 0, .int 0, .int 0, .int 0, .int 0, .int 0, .int 0, .null, .int 0, .null, .int 0, .int 0, .int 0, .int 0, .int 0, .null, .int 0, .int 0, .null, .int 0, .null, .int 0, .null, .null, .int 0, .null, .null, .null, .null, .long 0, .int 0, .null, .null, .null, .null, .null, .null, .null, .null, .null, .null, .null, .null, .null, .null, .null, .int 0, .null, .null, .null, .int 0]))] sz) [(h0, .inr (15, [.int 0, .int 0, .ref q_1, .int 0, .int (-1), .ref q_4, .ref q_6, .ref q_8, .ref q_10, .ref q_12, .ref q_14, .ref q_16, .ref q_18, .ref q_20, .ref q_22, .ref q_24, .ref q_26, .ref q_28, .ref q_30, .ref q_32, .ref q_34, .ref q_36, .ref q_39, .ref q_42, .ref q_44, .ref q_46, .ref q_48, .ref q_50, .ref q_52, .ref q_54, .ref q_56, .int 0, .ref q_58, .ref q_61, .int 0, .int 0, .int 0, .int 0, .int 0, .int 0, .ref q_64, .int 0, .ref q_67, .ref q_69, .ref q_71, .ref q_73, .ref q_75, .ref q_77, .ref q_79, .ref q_81, .int 0, .int 0, .int 0, .int 0, .ref q_83, .ref q_85, .ref q_87, .int 0, .ref q_90, .int 0, .ref q_93, .int 0, .int 0, .ref q_96, .ref q_99, .ref q_102, .int 0, .ref q_105, .ref q_108, .ref q_110, .ref q_112, .ref q_114, .ref q_117, .ref q_120, .int 0, .ref q_123, .int 0, .ref q_126, .ref q_129, .ref q_132, .int 0, .ref q_135, .ref q_138, .ref q_141, .ref q_144, .int 0, .ref q_147, .ref q_150, .ref q_153, .ref q_156, .int 0, .int 0, .int 0, .int 0, .int 0, .int 0, .int 0, .int 0, .int 0, .ref q_159, .int 0, .ref q_162, .int 0, .int 0, .int 0, .int 0, .int 0, .ref q_165, .int 0, .int 0, .ref q_168, .int 0, .ref q_171, .int 0, .ref q_174, .ref q_177, .int 0, .ref q_180, .ref q_183, .ref q_186, .ref q_189, .long 0, .int 0, .ref q_192, .ref q_195, .ref q_198, .ref q_201, .ref q_204, .ref q_207, .ref q_210, .ref q_213, .ref q_216, .ref q_219, .ref q_222, .ref q_225, .ref q_228, .ref q_231, .ref q_234, .int 0, .ref q_237, .ref q_240, .ref q_243, .int 0])), (q_1, .inl (k_1, 200, .inl (fun _ => 0))), (q_4, .inl (k_4, 6, .inl (fun _ => 0))), (q_6, .inl (k_6, 6, .inl (fun _ => 0))), (q_8, .inl (k_8, 6, .inl (fun _ => 0))), (q_10, .inl (k_10, 60, .inl (fun _ => 0))), (q_12, .inl (k_12, 1320, .inl (fun _ => 0))), (q_14, .inl (k_14, 1320, .inl (fun _ => 0))), (q_16, .inl (k_16, 1320, .inl (fun _ => 0))), (q_18, .inl (k_18, 1320, .inl (fun _ => 0))), (q_20, .inl (k_20, 1320, .inl (fun _ => 0))), (q_22, .inl (k_22, 1320, .inl (fun _ => 0))), (q_24, .inl (k_24, 1320, .inl (fun _ => 0))), (q_26, .inl (k_26, 1320, .inl (fun _ => 0))), (q_28, .inl (k_28, 1320, .inl (fun _ => 0))), (q_30, .inl (k_30, 1320, .inl (fun _ => 0))), (q_32, .inl (k_32, 1320, .inl (fun _ => 0))), (q_34, .inl (k_34, 1320, .inl (fun _ => 0))), (q_42, .inl (k_42, 260, .inl (fun _ => 0))), (q_44, .inl (k_44, 260, .inl (fun _ => 0))), (q_46, .inl (k_46, 260, .inl (fun _ => 0))), (q_48, .inl (k_48, 260, .inl (fun _ => 0))), (q_50, .inl (k_50, 260, .inl (fun _ => 0))), (q_52, .inl (k_52, 260, .inl (fun _ => 0))), (q_54, .inl (k_54, 260, .inl (fun _ => 0))), (q_56, .inl (k_56, 260, .inl (fun _ => 0))), (q_67, .inl (k_67, 12, .inl (fun _ => 0))), (q_69, .inl (k_69, 12, .inl (fun _ => 0))), (q_71, .inl (k_71, 12, .inl (fun _ => 0))), (q_73, .inl (k_73, 12, .inl (fun _ => 0))), (q_75, .inl (k_75, 12, .inl (fun _ => 0))), (q_77, .inl (k_77, 12, .inl (fun _ => 0))), (q_79, .inl (k_79, 12, .inl (fun _ => 0))), (q_81, .inl (k_81, 12, .inl (fun _ => 0))), (q_83, .inl (k_83, 520, .inl (fun _ => 0))), (q_85, .inl (k_85, 520, .inl (fun _ => 0))), (q_108, .inl (k_108, 4, .inl (fun _ => 0))), (q_110, .inl (k_110, 4, .inl (fun _ => 0))), (q_112, .inl (k_112, 400, .inl (fun _ => 0)))])) (va_A [(h0, .inr (15, [.int 0, .int 0, .null, .int 0, .int 0, .null, .null, .null, .null, .null, .null, .null, .null, .null, .null, .null, .null, .null, .null, .null, .null, .null, .null, .null, .null, .null, .null, .null, .null, .null, .null, .int 0, .null, .null, .int 0, .int 0, .int 0, .int 0, .int 0, .int 0, .null, .int 0, .null, .null, .null, .null, .null, .null, .null, .null, .int 0, .int 0, .int 0, .int 0, .null, .null, .null, .int 0, .null, .int 0, .null, .int 0, .int 0, .null, .null, .null, .int 0, .null, .null, .null, .null, .null, .null, .null, .int 0, .null, .int 0, .null, .null, .null, .int 0, .null, .null, .null, .null, .int 0, .null, .null, .null, .null, .int 0, .int 0, .int 0, .int 0, .int 0, .int 0, .int 0, .int 0, .int 0, .null, .int 0, .null, .int 0, .int 0, .int 0, .int 0, .int 0, .null, .int 0, .int 0, .null, .int 0, .null, .int 0, .null, .null, .int 0, .null, .null, .null, .null, .long 0, .int 0, .null, .null, .null, .null, .null, .null, .null, .null, .null, .null, .null, .null, .null, .null, .null, .int 0, .null, .null, .null, .int 0]))] sz)) 94 1386825 (va_A [(h0, .inr (15, [.int 0, .int 0, .null, .int 0, .int 0, .null, .null, .null, .null, .null, .null, .null, .null, .null, .null, .null, .null, .null, .null, .null, .null, .null, .null, .null, .null, .null, .null, .null, .null, .null, .null, .int 0, .null, .null, .int 0, .int 0, .int 0, .int 0, .int 0, .int 0, .null, .int 0, .null, .null, .null, .null, .null, .null, .null, .null, .int 0, .int 0, .int 0, .int 0, .null, .null, .null, .int 0, .null, .int 0, .null, .int 0, .int 0, .null, .null, .null, .int 0, .null, .null, .null, .null, .null, .null, .null, .int 0, .null, .int 0, .null, .null, .null, .int 0, .null, .null, .null, .null, .int 0, .null, .null, .null, .null, .int 0, .int 0, .int 0, .int 0, .int 0, .int 0, .int 0, .int 0, .int 0, .null, .int 0, .null, .int 0, .int 0, .int 0, .int 0, .int 0, .null, .int 0, .int 0, .null, .int 0, .null, .int 0, .null, .null, .int 0, .null, .null, .null, .null, .long 0, .int 0, .null, .null, .null, .null, .null, .null, .null, .null, .null, .null, .null, .null, .null, .null, .null, .int 0, .null, .null, .null, .int 0]))] sz) := by
  refine Met.ofW (cc := cX12_init) (maxL := 1) (ret := none) (by decide) rfl ?_
  intro p e s m args below meth c s₁ B hml hv
  obtain ⟨rfl, hsz, hP, hK, hD0⟩ := hv
  have hx := B.exec
  have hb := B.bytes
  have hr := B.returns
  have hts := atoms_spec (ws := WS yX12_init cX12_init 1 none) B.pre
  have ht : ∀ w ∈ TW, w.before _ s = true := fun w h => hts w (List.mem_cons_of_mem _ h)
  have hown : s.vm.findClass "PatternWorkshopModel" = some m.cls := findClass_of_methodNamed B.named
  have hlocks := B.notSynchronized
  have hin : meth.name = "<init>" := (name_of_methodNamed B.named B.method).1
  subst hsz
  have hD := hD0.self (sz := s.heap.size)
  generalize hAe : va_A [(h0, .inr (15, [.int 0, .int 0, .null, .int 0, .int 0, .null, .null, .null, .null, .null, .null, .null, .null, .null, .null, .null, .null, .null, .null, .null, .null, .null, .null, .null, .null, .null, .null, .null, .null, .null, .null, .int 0, .null, .null, .int 0, .int 0, .int 0, .int 0, .int 0, .int 0, .null, .int 0, .null, .null, .null, .null, .null, .null, .null, .null, .int 0, .int 0, .int 0, .int 0, .null, .null, .null, .int 0, .null, .int 0, .null, .int 0, .int 0, .null, .null, .null, .int 0, .null, .null, .null, .null, .null, .null, .null, .int 0, .null, .int 0, .null, .null, .null, .int 0, .null, .null, .null, .null, .int 0, .null, .null, .null, .null, .int 0, .int 0, .int 0, .int 0, .int 0, .int 0, .int 0, .int 0, .int 0, .null, .int 0, .null, .int 0, .int 0, .int 0, .int 0, .int 0, .null, .int 0, .int 0, .null, .int 0, .null, .int 0, .null, .null, .int 0, .null, .null, .null, .null, .long 0, .int 0, .null, .null, .null, .null, .null, .null, .null, .null, .null, .null, .null, .null, .null, .null, .null, .int 0, .null, .null, .null, .int 0]))] s.heap.size = A at hD ⊢
  have hA : ∀ q : Nat, s.heap.size ≤ q → A q := fun q h => by rw [← hAe]; exact Or.inr h
  have hS : va_S A s.heap s.heap [] := va_S.rf
  have hP : va_P (dC, dI) vwCl [(h0, .inr (15, [.int 0, .int 0, .null, .int 0, .int 0, .null, .null, .null, .null, .null, .null, .null, .null, .null, .null, .null, .null, .null, .null, .null, .null, .null, .null, .null, .null, .null, .null, .null, .null, .null, .null, .int 0, .null, .null, .int 0, .int 0, .int 0, .int 0, .int 0, .int 0, .null, .int 0, .null, .null, .null, .null, .null, .null, .null, .null, .int 0, .int 0, .int 0, .int 0, .null, .null, .null, .int 0, .null, .int 0, .null, .int 0, .int 0, .null, .null, .null, .int 0, .null, .null, .null, .null, .null, .null, .null, .int 0, .null, .int 0, .null, .null, .null, .int 0, .null, .null, .null, .null, .int 0, .null, .null, .null, .null, .int 0, .int 0, .int 0, .int 0, .int 0, .int 0, .int 0, .int 0, .int 0, .null, .int 0, .null, .int 0, .int 0, .int 0, .int 0, .int 0, .null, .int 0, .int 0, .null, .int 0, .null, .int 0, .null, .null, .int 0, .null, .null, .null, .null, .long 0, .int 0, .null, .null, .null, .null, .null, .null, .null, .null, .null, .null, .null, .null, .null, .null, .null, .int 0, .null, .null, .null, .int 0]))] s.heap := hP
  have hl := lv_entry ([.ref h0]) (n := 1) (Nat.le_of_ble_eq_true rfl)
  rw [lg_entry_eq]
  generalize (lg_sl ([.ref h0]) ++ List.replicate (1 - (lg_sl ([.ref h0])).length) Slot.unset).toArray = ls at hl ⊢
  have hl : lv_has ls 1 [(0, .ref h0)] := hl
  clear hD0
  have hfs : ([.int 0, .int 0, .null, .int 0, .int 0, .null, .null, .null, .null, .null, .null, .null, .null, .null, .null, .null, .null, .null, .null, .null, .null, .null, .null, .null, .null, .null, .null, .null, .null, .null, .null, .int 0, .null, .null, .int 0, .int 0, .int 0, .int 0, .int 0, .int 0, .null, .int 0, .null, .null, .null, .null, .null, .null, .null, .null, .int 0, .int 0, .int 0, .int 0, .null, .null, .null, .int 0, .null, .int 0, .null, .int 0, .int 0, .null, .null, .null, .int 0, .null, .null, .null, .null, .null, .null, .null, .int 0, .null, .int 0, .null, .null, .null, .int 0, .null, .null, .null, .null, .int 0, .null, .null, .null, .null, .int 0, .int 0, .int 0, .int 0, .int 0, .int 0, .int 0, .int 0, .int 0, .null, .int 0, .null, .int 0, .int 0, .int 0, .int 0, .int 0, .null, .int 0, .int 0, .null, .int 0, .null, .int 0, .null, .null, .int 0, .null, .null, .null, .null, .long 0, .int 0, .null, .null, .null, .null, .null, .null, .null, .null, .null, .null, .null, .null, .null, .null, .null, .int 0, .null, .null, .null, .int 0] : List Value).length = 143 := rfl
  refine lv_aload_n hx hb dX12_init_0 rfl (lv_at hl 0 rfl) ?_
  refine W.objInit hx hb hown (ht _ tw_2134) (ht _ tw_265) (ht _ tw_266) rfl (by rw [hml]; exact hl.1) rfl dX12_init_1 (Nat.le_of_ble_eq_true rfl) (Nat.le_of_ble_eq_true rfl) ?_
  refine W.eq (g2 := F0 m 4 ls []) rfl ?_
  refine lv_aload_n hx hb dX12_init_4 rfl (lv_at hl 0 rfl) ?_
  refine lv_sipush (v := 200) hx hb dX12_init_5 (by decide) ?_
  refine mkk (atype := .int) hx hb ht hown hin hA hfs hK hP hD hS .int rfl tw_296 (a0 := (200, .inl (fun _ => 0))) (fun _ => rfl) (by decide) (by decide : (200 : Int32).toNatClampNeg = 200) (by decide) (Nat.le_of_ble_eq_true rfl) (Nat.le_of_ble_eq_true rfl) 2 (by decide) tt12_2 tw_2142 (by decide +kernel) dX12_init_8 dX12_init_10 (fun q_1 k_1 H_1 locs_1 hf_1 hK_1 hP_1 hD_1 hS_1 => ?_)
  clear hfs hK hP hD hS
  refine lv_aload_n hx hb dX12_init_13 rfl (lv_at hl 0 rfl) ?_
  refine lv_iconst (v := (-1)) hx hb dX12_init_14 (by decide) ?_
  refine mki hx hb ht hown hf_1 hK_1 hP_1 hD_1 hS_1 4 (by decide) tt12_4 tw_2144 dX12_init_15 (fun H_2 locs_2 hf_2 hP_2 hD_2 hS_2 => ?_)
  clear hf_1 hP_1 hD_1 hS_1
  refine lv_aload_n hx hb dX12_init_18 rfl (lv_at hl 0 rfl) ?_
  refine lv_bipush (v := 6) hx hb dX12_init_19 (by decide) ?_
  refine mkk (atype := .boolean) hx hb ht hown hin hA hf_2 hK_1 hP_2 hD_2 hS_2 .boolean rfl tw_384 (a0 := (6, .inl (fun _ => 0))) (fun _ => rfl) (by decide) (by decide : (6 : Int32).toNatClampNeg = 6) (by decide) (Nat.le_of_ble_eq_true rfl) (Nat.le_of_ble_eq_true rfl) 5 (by decide) tt12_5 tw_2145 (by decide +kernel) dX12_init_21 dX12_init_23 (fun q_4 k_4 H_3 locs_3 hf_3 hK_3 hP_3 hD_3 hS_3 => ?_)
  clear hf_2 hK_1 hP_2 hD_2 hS_2
  refine lv_aload_n hx hb dX12_init_26 rfl (lv_at hl 0 rfl) ?_
  refine lv_bipush (v := 6) hx hb dX12_init_27 (by decide) ?_
  refine mkk (atype := .int) hx hb ht hown hin hA hf_3 hK_3 hP_3 hD_3 hS_3 .int rfl tw_296 (a0 := (6, .inl (fun _ => 0))) (fun _ => rfl) (by decide) (by decide : (6 : Int32).toNatClampNeg = 6) (by decide) (Nat.le_of_ble_eq_true rfl) (Nat.le_of_ble_eq_true rfl) 6 (by decide) tt12_6 tw_2146 (by decide +kernel) dX12_init_29 dX12_init_31 (fun q_6 k_6 H_4 locs_4 hf_4 hK_4 hP_4 hD_4 hS_4 => ?_)
  clear hf_3 hK_3 hP_3 hD_3 hS_3
  refine lv_aload_n hx hb dX12_init_34 rfl (lv_at hl 0 rfl) ?_
  refine lv_bipush (v := 6) hx hb dX12_init_35 (by decide) ?_
  refine mkk (atype := .int) hx hb ht hown hin hA hf_4 hK_4 hP_4 hD_4 hS_4 .int rfl tw_296 (a0 := (6, .inl (fun _ => 0))) (fun _ => rfl) (by decide) (by decide : (6 : Int32).toNatClampNeg = 6) (by decide) (Nat.le_of_ble_eq_true rfl) (Nat.le_of_ble_eq_true rfl) 7 (by decide) tt12_7 tw_2147 (by decide +kernel) dX12_init_37 dX12_init_39 (fun q_8 k_8 H_5 locs_5 hf_5 hK_5 hP_5 hD_5 hS_5 => ?_)
  clear hf_4 hK_4 hP_4 hD_4 hS_4
  refine lv_aload_n hx hb dX12_init_42 rfl (lv_at hl 0 rfl) ?_
  refine lv_bipush (v := 60) hx hb dX12_init_43 (by decide) ?_
  refine mkk (atype := .int) hx hb ht hown hin hA hf_5 hK_5 hP_5 hD_5 hS_5 .int rfl tw_296 (a0 := (60, .inl (fun _ => 0))) (fun _ => rfl) (by decide) (by decide : (60 : Int32).toNatClampNeg = 60) (by decide) (Nat.le_of_ble_eq_true rfl) (Nat.le_of_ble_eq_true rfl) 8 (by decide) tt12_8 tw_2148 (by decide +kernel) dX12_init_45 dX12_init_47 (fun q_10 k_10 H_6 locs_6 hf_6 hK_6 hP_6 hD_6 hS_6 => ?_)
  clear hf_5 hK_5 hP_5 hD_5 hS_5
  refine lv_aload_n hx hb dX12_init_50 rfl (lv_at hl 0 rfl) ?_
  refine lv_sipush (v := 1320) hx hb dX12_init_51 (by decide) ?_
  refine mkk (atype := .int) hx hb ht hown hin hA hf_6 hK_6 hP_6 hD_6 hS_6 .int rfl tw_296 (a0 := (1320, .inl (fun _ => 0))) (fun _ => rfl) (by decide) (by decide : (1320 : Int32).toNatClampNeg = 1320) (by decide) (Nat.le_of_ble_eq_true rfl) (Nat.le_of_ble_eq_true rfl) 9 (by decide) tt12_9 tw_2149 (by decide +kernel) dX12_init_54 dX12_init_56 (fun q_12 k_12 H_7 locs_7 hf_7 hK_7 hP_7 hD_7 hS_7 => ?_)
  clear hf_6 hK_6 hP_6 hD_6 hS_6
  refine lv_aload_n hx hb dX12_init_59 rfl (lv_at hl 0 rfl) ?_
  refine lv_sipush (v := 1320) hx hb dX12_init_60 (by decide) ?_
  refine mkk (atype := .int) hx hb ht hown hin hA hf_7 hK_7 hP_7 hD_7 hS_7 .int rfl tw_296 (a0 := (1320, .inl (fun _ => 0))) (fun _ => rfl) (by decide) (by decide : (1320 : Int32).toNatClampNeg = 1320) (by decide) (Nat.le_of_ble_eq_true rfl) (Nat.le_of_ble_eq_true rfl) 10 (by decide) tt12_10 tw_2150 (by decide +kernel) dX12_init_63 dX12_init_65 (fun q_14 k_14 H_8 locs_8 hf_8 hK_8 hP_8 hD_8 hS_8 => ?_)
  clear hf_7 hK_7 hP_7 hD_7 hS_7
  refine lv_aload_n hx hb dX12_init_68 rfl (lv_at hl 0 rfl) ?_
  refine lv_sipush (v := 1320) hx hb dX12_init_69 (by decide) ?_
  refine mkk (atype := .int) hx hb ht hown hin hA hf_8 hK_8 hP_8 hD_8 hS_8 .int rfl tw_296 (a0 := (1320, .inl (fun _ => 0))) (fun _ => rfl) (by decide) (by decide : (1320 : Int32).toNatClampNeg = 1320) (by decide) (Nat.le_of_ble_eq_true rfl) (Nat.le_of_ble_eq_true rfl) 11 (by decide) tt12_11 tw_2151 (by decide +kernel) dX12_init_72 dX12_init_74 (fun q_16 k_16 H_9 locs_9 hf_9 hK_9 hP_9 hD_9 hS_9 => ?_)
  clear hf_8 hK_8 hP_8 hD_8 hS_8
  refine lv_aload_n hx hb dX12_init_77 rfl (lv_at hl 0 rfl) ?_
  refine lv_sipush (v := 1320) hx hb dX12_init_78 (by decide) ?_
  refine mkk (atype := .int) hx hb ht hown hin hA hf_9 hK_9 hP_9 hD_9 hS_9 .int rfl tw_296 (a0 := (1320, .inl (fun _ => 0))) (fun _ => rfl) (by decide) (by decide : (1320 : Int32).toNatClampNeg = 1320) (by decide) (Nat.le_of_ble_eq_true rfl) (Nat.le_of_ble_eq_true rfl) 12 (by decide) tt12_12 tw_2152 (by decide +kernel) dX12_init_81 dX12_init_83 (fun q_18 k_18 H_10 locs_10 hf_10 hK_10 hP_10 hD_10 hS_10 => ?_)
  clear hf_9 hK_9 hP_9 hD_9 hS_9
  refine lv_aload_n hx hb dX12_init_86 rfl (lv_at hl 0 rfl) ?_
  refine lv_sipush (v := 1320) hx hb dX12_init_87 (by decide) ?_
  refine mkk (atype := .int) hx hb ht hown hin hA hf_10 hK_10 hP_10 hD_10 hS_10 .int rfl tw_296 (a0 := (1320, .inl (fun _ => 0))) (fun _ => rfl) (by decide) (by decide : (1320 : Int32).toNatClampNeg = 1320) (by decide) (Nat.le_of_ble_eq_true rfl) (Nat.le_of_ble_eq_true rfl) 13 (by decide) tt12_13 tw_2153 (by decide +kernel) dX12_init_90 dX12_init_92 (fun q_20 k_20 H_11 locs_11 hf_11 hK_11 hP_11 hD_11 hS_11 => ?_)
  clear hf_10 hK_10 hP_10 hD_10 hS_10
  refine lv_aload_n hx hb dX12_init_95 rfl (lv_at hl 0 rfl) ?_
  refine lv_sipush (v := 1320) hx hb dX12_init_96 (by decide) ?_
  refine mkk (atype := .int) hx hb ht hown hin hA hf_11 hK_11 hP_11 hD_11 hS_11 .int rfl tw_296 (a0 := (1320, .inl (fun _ => 0))) (fun _ => rfl) (by decide) (by decide : (1320 : Int32).toNatClampNeg = 1320) (by decide) (Nat.le_of_ble_eq_true rfl) (Nat.le_of_ble_eq_true rfl) 14 (by decide) tt12_14 tw_2154 (by decide +kernel) dX12_init_99 dX12_init_101 (fun q_22 k_22 H_12 locs_12 hf_12 hK_12 hP_12 hD_12 hS_12 => ?_)
  clear hf_11 hK_11 hP_11 hD_11 hS_11
  refine lv_aload_n hx hb dX12_init_104 rfl (lv_at hl 0 rfl) ?_
  refine lv_sipush (v := 1320) hx hb dX12_init_105 (by decide) ?_
  refine mkk (atype := .int) hx hb ht hown hin hA hf_12 hK_12 hP_12 hD_12 hS_12 .int rfl tw_296 (a0 := (1320, .inl (fun _ => 0))) (fun _ => rfl) (by decide) (by decide : (1320 : Int32).toNatClampNeg = 1320) (by decide) (Nat.le_of_ble_eq_true rfl) (Nat.le_of_ble_eq_true rfl) 15 (by decide) tt12_15 tw_2155 (by decide +kernel) dX12_init_108 dX12_init_110 (fun q_24 k_24 H_13 locs_13 hf_13 hK_13 hP_13 hD_13 hS_13 => ?_)
  clear hf_12 hK_12 hP_12 hD_12 hS_12
  refine lv_aload_n hx hb dX12_init_113 rfl (lv_at hl 0 rfl) ?_
  refine lv_sipush (v := 1320) hx hb dX12_init_114 (by decide) ?_
  refine mkk (atype := .int) hx hb ht hown hin hA hf_13 hK_13 hP_13 hD_13 hS_13 .int rfl tw_296 (a0 := (1320, .inl (fun _ => 0))) (fun _ => rfl) (by decide) (by decide : (1320 : Int32).toNatClampNeg = 1320) (by decide) (Nat.le_of_ble_eq_true rfl) (Nat.le_of_ble_eq_true rfl) 16 (by decide) tt12_16 tw_2156 (by decide +kernel) dX12_init_117 dX12_init_119 (fun q_26 k_26 H_14 locs_14 hf_14 hK_14 hP_14 hD_14 hS_14 => ?_)
  clear hf_13 hK_13 hP_13 hD_13 hS_13
  refine lv_aload_n hx hb dX12_init_122 rfl (lv_at hl 0 rfl) ?_
  refine lv_sipush (v := 1320) hx hb dX12_init_123 (by decide) ?_
  refine mkk (atype := .int) hx hb ht hown hin hA hf_14 hK_14 hP_14 hD_14 hS_14 .int rfl tw_296 (a0 := (1320, .inl (fun _ => 0))) (fun _ => rfl) (by decide) (by decide : (1320 : Int32).toNatClampNeg = 1320) (by decide) (Nat.le_of_ble_eq_true rfl) (Nat.le_of_ble_eq_true rfl) 17 (by decide) tt12_17 tw_2157 (by decide +kernel) dX12_init_126 dX12_init_128 (fun q_28 k_28 H_15 locs_15 hf_15 hK_15 hP_15 hD_15 hS_15 => ?_)
  clear hf_14 hK_14 hP_14 hD_14 hS_14
  refine lv_aload_n hx hb dX12_init_131 rfl (lv_at hl 0 rfl) ?_
  refine lv_sipush (v := 1320) hx hb dX12_init_132 (by decide) ?_
  refine mkk (atype := .int) hx hb ht hown hin hA hf_15 hK_15 hP_15 hD_15 hS_15 .int rfl tw_296 (a0 := (1320, .inl (fun _ => 0))) (fun _ => rfl) (by decide) (by decide : (1320 : Int32).toNatClampNeg = 1320) (by decide) (Nat.le_of_ble_eq_true rfl) (Nat.le_of_ble_eq_true rfl) 18 (by decide) tt12_18 tw_2158 (by decide +kernel) dX12_init_135 dX12_init_137 (fun q_30 k_30 H_16 locs_16 hf_16 hK_16 hP_16 hD_16 hS_16 => ?_)
  clear hf_15 hK_15 hP_15 hD_15 hS_15
  refine lv_aload_n hx hb dX12_init_140 rfl (lv_at hl 0 rfl) ?_
  refine lv_sipush (v := 1320) hx hb dX12_init_141 (by decide) ?_
  refine mkk (atype := .boolean) hx hb ht hown hin hA hf_16 hK_16 hP_16 hD_16 hS_16 .boolean rfl tw_384 (a0 := (1320, .inl (fun _ => 0))) (fun _ => rfl) (by decide) (by decide : (1320 : Int32).toNatClampNeg = 1320) (by decide) (Nat.le_of_ble_eq_true rfl) (Nat.le_of_ble_eq_true rfl) 19 (by decide) tt12_19 tw_2159 (by decide +kernel) dX12_init_144 dX12_init_146 (fun q_32 k_32 H_17 locs_17 hf_17 hK_17 hP_17 hD_17 hS_17 => ?_)
  clear hf_16 hK_16 hP_16 hD_16 hS_16
  refine lv_aload_n hx hb dX12_init_149 rfl (lv_at hl 0 rfl) ?_
  refine lv_sipush (v := 1320) hx hb dX12_init_150 (by decide) ?_
  refine mkk (atype := .boolean) hx hb ht hown hin hA hf_17 hK_17 hP_17 hD_17 hS_17 .boolean rfl tw_384 (a0 := (1320, .inl (fun _ => 0))) (fun _ => rfl) (by decide) (by decide : (1320 : Int32).toNatClampNeg = 1320) (by decide) (Nat.le_of_ble_eq_true rfl) (Nat.le_of_ble_eq_true rfl) 20 (by decide) tt12_20 tw_2160 (by decide +kernel) dX12_init_153 dX12_init_155 (fun q_34 k_34 H_18 locs_18 hf_18 hK_18 hP_18 hD_18 hS_18 => ?_)
  clear hf_17 hK_17 hP_17 hD_17 hS_17
  refine lv_aload_n hx hb dX12_init_158 rfl (lv_at hl 0 rfl) ?_
  refine lv_sipush (v := 2520) hx hb dX12_init_159 (by decide) ?_
  refine mkd (atype := .int) hx hb ht hown hin hA hf_18 hK_18 hP_18 hD_18 hS_18 .int rfl tw_296 (a0 := (2520, .inl (fun _ => 0))) (fun _ => rfl) (by decide) (by decide : (2520 : Int32).toNatClampNeg = 2520) (by decide) (Nat.le_of_ble_eq_true rfl) (Nat.le_of_ble_eq_true rfl) 21 (by decide) tt12_21 tw_2161 (by decide +kernel) dX12_init_162 dX12_init_164 (fun q_36 H_19 locs_19 hf_19 hP_19 hD_19 hS_19 => ?_)
  clear hf_18 hP_18 hD_18 hS_18
  refine lv_aload_n hx hb dX12_init_167 rfl (lv_at hl 0 rfl) ?_
  refine lv_sipush (v := 2520) hx hb dX12_init_168 (by decide) ?_
  refine mkd (atype := .int) hx hb ht hown hin hA hf_19 hK_18 hP_19 hD_19 hS_19 .int rfl tw_296 (a0 := (2520, .inl (fun _ => 0))) (fun _ => rfl) (by decide) (by decide : (2520 : Int32).toNatClampNeg = 2520) (by decide) (Nat.le_of_ble_eq_true rfl) (Nat.le_of_ble_eq_true rfl) 22 (by decide) tt12_22 tw_2162 (by decide +kernel) dX12_init_171 dX12_init_173 (fun q_39 H_20 locs_20 hf_20 hP_20 hD_20 hS_20 => ?_)
  clear hf_19 hP_19 hD_19 hS_19
  refine lv_aload_n hx hb dX12_init_176 rfl (lv_at hl 0 rfl) ?_
  refine lv_sipush (v := 260) hx hb dX12_init_177 (by decide) ?_
  refine mkk (atype := .int) hx hb ht hown hin hA hf_20 hK_18 hP_20 hD_20 hS_20 .int rfl tw_296 (a0 := (260, .inl (fun _ => 0))) (fun _ => rfl) (by decide) (by decide : (260 : Int32).toNatClampNeg = 260) (by decide) (Nat.le_of_ble_eq_true rfl) (Nat.le_of_ble_eq_true rfl) 23 (by decide) tt12_23 tw_2163 (by decide +kernel) dX12_init_180 dX12_init_182 (fun q_42 k_42 H_21 locs_21 hf_21 hK_21 hP_21 hD_21 hS_21 => ?_)
  clear hf_20 hK_18 hP_20 hD_20 hS_20
  refine lv_aload_n hx hb dX12_init_185 rfl (lv_at hl 0 rfl) ?_
  refine lv_sipush (v := 260) hx hb dX12_init_186 (by decide) ?_
  refine mkk (atype := .int) hx hb ht hown hin hA hf_21 hK_21 hP_21 hD_21 hS_21 .int rfl tw_296 (a0 := (260, .inl (fun _ => 0))) (fun _ => rfl) (by decide) (by decide : (260 : Int32).toNatClampNeg = 260) (by decide) (Nat.le_of_ble_eq_true rfl) (Nat.le_of_ble_eq_true rfl) 24 (by decide) tt12_24 tw_2164 (by decide +kernel) dX12_init_189 dX12_init_191 (fun q_44 k_44 H_22 locs_22 hf_22 hK_22 hP_22 hD_22 hS_22 => ?_)
  clear hf_21 hK_21 hP_21 hD_21 hS_21
  refine lv_aload_n hx hb dX12_init_194 rfl (lv_at hl 0 rfl) ?_
  refine lv_sipush (v := 260) hx hb dX12_init_195 (by decide) ?_
  refine mkk (atype := .int) hx hb ht hown hin hA hf_22 hK_22 hP_22 hD_22 hS_22 .int rfl tw_296 (a0 := (260, .inl (fun _ => 0))) (fun _ => rfl) (by decide) (by decide : (260 : Int32).toNatClampNeg = 260) (by decide) (Nat.le_of_ble_eq_true rfl) (Nat.le_of_ble_eq_true rfl) 25 (by decide) tt12_25 tw_2165 (by decide +kernel) dX12_init_198 dX12_init_200 (fun q_46 k_46 H_23 locs_23 hf_23 hK_23 hP_23 hD_23 hS_23 => ?_)
  clear hf_22 hK_22 hP_22 hD_22 hS_22
  refine lv_aload_n hx hb dX12_init_203 rfl (lv_at hl 0 rfl) ?_
  refine lv_sipush (v := 260) hx hb dX12_init_204 (by decide) ?_
  refine mkk (atype := .int) hx hb ht hown hin hA hf_23 hK_23 hP_23 hD_23 hS_23 .int rfl tw_296 (a0 := (260, .inl (fun _ => 0))) (fun _ => rfl) (by decide) (by decide : (260 : Int32).toNatClampNeg = 260) (by decide) (Nat.le_of_ble_eq_true rfl) (Nat.le_of_ble_eq_true rfl) 26 (by decide) tt12_26 tw_2166 (by decide +kernel) dX12_init_207 dX12_init_209 (fun q_48 k_48 H_24 locs_24 hf_24 hK_24 hP_24 hD_24 hS_24 => ?_)
  clear hf_23 hK_23 hP_23 hD_23 hS_23
  refine lv_aload_n hx hb dX12_init_212 rfl (lv_at hl 0 rfl) ?_
  refine lv_sipush (v := 260) hx hb dX12_init_213 (by decide) ?_
  refine mkk (atype := .int) hx hb ht hown hin hA hf_24 hK_24 hP_24 hD_24 hS_24 .int rfl tw_296 (a0 := (260, .inl (fun _ => 0))) (fun _ => rfl) (by decide) (by decide : (260 : Int32).toNatClampNeg = 260) (by decide) (Nat.le_of_ble_eq_true rfl) (Nat.le_of_ble_eq_true rfl) 27 (by decide) tt12_27 tw_2167 (by decide +kernel) dX12_init_216 dX12_init_218 (fun q_50 k_50 H_25 locs_25 hf_25 hK_25 hP_25 hD_25 hS_25 => ?_)
  clear hf_24 hK_24 hP_24 hD_24 hS_24
  refine lv_aload_n hx hb dX12_init_221 rfl (lv_at hl 0 rfl) ?_
  refine lv_sipush (v := 260) hx hb dX12_init_222 (by decide) ?_
  refine mkk (atype := .int) hx hb ht hown hin hA hf_25 hK_25 hP_25 hD_25 hS_25 .int rfl tw_296 (a0 := (260, .inl (fun _ => 0))) (fun _ => rfl) (by decide) (by decide : (260 : Int32).toNatClampNeg = 260) (by decide) (Nat.le_of_ble_eq_true rfl) (Nat.le_of_ble_eq_true rfl) 28 (by decide) tt12_28 tw_2168 (by decide +kernel) dX12_init_225 dX12_init_227 (fun q_52 k_52 H_26 locs_26 hf_26 hK_26 hP_26 hD_26 hS_26 => ?_)
  clear hf_25 hK_25 hP_25 hD_25 hS_25
  refine lv_aload_n hx hb dX12_init_230 rfl (lv_at hl 0 rfl) ?_
  refine lv_sipush (v := 260) hx hb dX12_init_231 (by decide) ?_
  refine mkk (atype := .int) hx hb ht hown hin hA hf_26 hK_26 hP_26 hD_26 hS_26 .int rfl tw_296 (a0 := (260, .inl (fun _ => 0))) (fun _ => rfl) (by decide) (by decide : (260 : Int32).toNatClampNeg = 260) (by decide) (Nat.le_of_ble_eq_true rfl) (Nat.le_of_ble_eq_true rfl) 29 (by decide) tt12_29 tw_2169 (by decide +kernel) dX12_init_234 dX12_init_236 (fun q_54 k_54 H_27 locs_27 hf_27 hK_27 hP_27 hD_27 hS_27 => ?_)
  clear hf_26 hK_26 hP_26 hD_26 hS_26
  refine lv_aload_n hx hb dX12_init_239 rfl (lv_at hl 0 rfl) ?_
  refine lv_sipush (v := 260) hx hb dX12_init_240 (by decide) ?_
  refine mkk (atype := .int) hx hb ht hown hin hA hf_27 hK_27 hP_27 hD_27 hS_27 .int rfl tw_296 (a0 := (260, .inl (fun _ => 0))) (fun _ => rfl) (by decide) (by decide : (260 : Int32).toNatClampNeg = 260) (by decide) (Nat.le_of_ble_eq_true rfl) (Nat.le_of_ble_eq_true rfl) 30 (by decide) tt12_30 tw_2170 (by decide +kernel) dX12_init_243 dX12_init_245 (fun q_56 k_56 H_28 locs_28 hf_28 hK_28 hP_28 hD_28 hS_28 => ?_)
  clear hf_27 hK_27 hP_27 hD_27 hS_27
  refine lv_aload_n hx hb dX12_init_248 rfl (lv_at hl 0 rfl) ?_
  refine lv_sipush (v := 420) hx hb dX12_init_249 (by decide) ?_
  refine mkd (atype := .int) hx hb ht hown hin hA hf_28 hK_28 hP_28 hD_28 hS_28 .int rfl tw_296 (a0 := (420, .inl (fun _ => 0))) (fun _ => rfl) (by decide) (by decide : (420 : Int32).toNatClampNeg = 420) (by decide) (Nat.le_of_ble_eq_true rfl) (Nat.le_of_ble_eq_true rfl) 32 (by decide) tt12_32 tw_2172 (by decide +kernel) dX12_init_252 dX12_init_254 (fun q_58 H_29 locs_29 hf_29 hP_29 hD_29 hS_29 => ?_)
  clear hf_28 hP_28 hD_28 hS_28
  refine lv_aload_n hx hb dX12_init_257 rfl (lv_at hl 0 rfl) ?_
  refine lv_sipush (v := 420) hx hb dX12_init_258 (by decide) ?_
  refine mkd (atype := .int) hx hb ht hown hin hA hf_29 hK_28 hP_29 hD_29 hS_29 .int rfl tw_296 (a0 := (420, .inl (fun _ => 0))) (fun _ => rfl) (by decide) (by decide : (420 : Int32).toNatClampNeg = 420) (by decide) (Nat.le_of_ble_eq_true rfl) (Nat.le_of_ble_eq_true rfl) 33 (by decide) tt12_33 tw_2173 (by decide +kernel) dX12_init_261 dX12_init_263 (fun q_61 H_30 locs_30 hf_30 hP_30 hD_30 hS_30 => ?_)
  clear hf_29 hP_29 hD_29 hS_29
  refine lv_aload_n hx hb dX12_init_266 rfl (lv_at hl 0 rfl) ?_
  refine lv_bipush (v := 10) hx hb dX12_init_267 (by decide) ?_
  refine mkd (atype := .int) hx hb ht hown hin hA hf_30 hK_28 hP_30 hD_30 hS_30 .int rfl tw_296 (a0 := (10, .inl (fun _ => 0))) (fun _ => rfl) (by decide) (by decide : (10 : Int32).toNatClampNeg = 10) (by decide) (Nat.le_of_ble_eq_true rfl) (Nat.le_of_ble_eq_true rfl) 40 (by decide) tt12_40 tw_2180 (by decide +kernel) dX12_init_269 dX12_init_271 (fun q_64 H_31 locs_31 hf_31 hP_31 hD_31 hS_31 => ?_)
  clear hf_30 hP_30 hD_30 hS_30
  refine lv_aload_n hx hb dX12_init_274 rfl (lv_at hl 0 rfl) ?_
  refine lv_bipush (v := 12) hx hb dX12_init_275 (by decide) ?_
  refine mkk (atype := .int) hx hb ht hown hin hA hf_31 hK_28 hP_31 hD_31 hS_31 .int rfl tw_296 (a0 := (12, .inl (fun _ => 0))) (fun _ => rfl) (by decide) (by decide : (12 : Int32).toNatClampNeg = 12) (by decide) (Nat.le_of_ble_eq_true rfl) (Nat.le_of_ble_eq_true rfl) 42 (by decide) tt12_42 tw_2182 (by decide +kernel) dX12_init_277 dX12_init_279 (fun q_67 k_67 H_32 locs_32 hf_32 hK_32 hP_32 hD_32 hS_32 => ?_)
  clear hf_31 hK_28 hP_31 hD_31 hS_31
  refine lv_aload_n hx hb dX12_init_282 rfl (lv_at hl 0 rfl) ?_
  refine lv_bipush (v := 12) hx hb dX12_init_283 (by decide) ?_
  refine mkk (atype := .int) hx hb ht hown hin hA hf_32 hK_32 hP_32 hD_32 hS_32 .int rfl tw_296 (a0 := (12, .inl (fun _ => 0))) (fun _ => rfl) (by decide) (by decide : (12 : Int32).toNatClampNeg = 12) (by decide) (Nat.le_of_ble_eq_true rfl) (Nat.le_of_ble_eq_true rfl) 43 (by decide) tt12_43 tw_2183 (by decide +kernel) dX12_init_285 dX12_init_287 (fun q_69 k_69 H_33 locs_33 hf_33 hK_33 hP_33 hD_33 hS_33 => ?_)
  clear hf_32 hK_32 hP_32 hD_32 hS_32
  refine lv_aload_n hx hb dX12_init_290 rfl (lv_at hl 0 rfl) ?_
  refine lv_bipush (v := 12) hx hb dX12_init_291 (by decide) ?_
  refine mkk (atype := .int) hx hb ht hown hin hA hf_33 hK_33 hP_33 hD_33 hS_33 .int rfl tw_296 (a0 := (12, .inl (fun _ => 0))) (fun _ => rfl) (by decide) (by decide : (12 : Int32).toNatClampNeg = 12) (by decide) (Nat.le_of_ble_eq_true rfl) (Nat.le_of_ble_eq_true rfl) 44 (by decide) tt12_44 tw_2184 (by decide +kernel) dX12_init_293 dX12_init_295 (fun q_71 k_71 H_34 locs_34 hf_34 hK_34 hP_34 hD_34 hS_34 => ?_)
  clear hf_33 hK_33 hP_33 hD_33 hS_33
  refine lv_aload_n hx hb dX12_init_298 rfl (lv_at hl 0 rfl) ?_
  refine lv_bipush (v := 12) hx hb dX12_init_299 (by decide) ?_
  refine mkk (atype := .int) hx hb ht hown hin hA hf_34 hK_34 hP_34 hD_34 hS_34 .int rfl tw_296 (a0 := (12, .inl (fun _ => 0))) (fun _ => rfl) (by decide) (by decide : (12 : Int32).toNatClampNeg = 12) (by decide) (Nat.le_of_ble_eq_true rfl) (Nat.le_of_ble_eq_true rfl) 45 (by decide) tt12_45 tw_2185 (by decide +kernel) dX12_init_301 dX12_init_303 (fun q_73 k_73 H_35 locs_35 hf_35 hK_35 hP_35 hD_35 hS_35 => ?_)
  clear hf_34 hK_34 hP_34 hD_34 hS_34
  refine lv_aload_n hx hb dX12_init_306 rfl (lv_at hl 0 rfl) ?_
  refine lv_bipush (v := 12) hx hb dX12_init_307 (by decide) ?_
  refine mkk (atype := .int) hx hb ht hown hin hA hf_35 hK_35 hP_35 hD_35 hS_35 .int rfl tw_296 (a0 := (12, .inl (fun _ => 0))) (fun _ => rfl) (by decide) (by decide : (12 : Int32).toNatClampNeg = 12) (by decide) (Nat.le_of_ble_eq_true rfl) (Nat.le_of_ble_eq_true rfl) 46 (by decide) tt12_46 tw_2186 (by decide +kernel) dX12_init_309 dX12_init_311 (fun q_75 k_75 H_36 locs_36 hf_36 hK_36 hP_36 hD_36 hS_36 => ?_)
  clear hf_35 hK_35 hP_35 hD_35 hS_35
  refine lv_aload_n hx hb dX12_init_314 rfl (lv_at hl 0 rfl) ?_
  refine lv_bipush (v := 12) hx hb dX12_init_315 (by decide) ?_
  refine mkk (atype := .int) hx hb ht hown hin hA hf_36 hK_36 hP_36 hD_36 hS_36 .int rfl tw_296 (a0 := (12, .inl (fun _ => 0))) (fun _ => rfl) (by decide) (by decide : (12 : Int32).toNatClampNeg = 12) (by decide) (Nat.le_of_ble_eq_true rfl) (Nat.le_of_ble_eq_true rfl) 47 (by decide) tt12_47 tw_2187 (by decide +kernel) dX12_init_317 dX12_init_319 (fun q_77 k_77 H_37 locs_37 hf_37 hK_37 hP_37 hD_37 hS_37 => ?_)
  clear hf_36 hK_36 hP_36 hD_36 hS_36
  refine lv_aload_n hx hb dX12_init_322 rfl (lv_at hl 0 rfl) ?_
  refine lv_bipush (v := 12) hx hb dX12_init_323 (by decide) ?_
  refine mkk (atype := .int) hx hb ht hown hin hA hf_37 hK_37 hP_37 hD_37 hS_37 .int rfl tw_296 (a0 := (12, .inl (fun _ => 0))) (fun _ => rfl) (by decide) (by decide : (12 : Int32).toNatClampNeg = 12) (by decide) (Nat.le_of_ble_eq_true rfl) (Nat.le_of_ble_eq_true rfl) 48 (by decide) tt12_48 tw_2188 (by decide +kernel) dX12_init_325 dX12_init_327 (fun q_79 k_79 H_38 locs_38 hf_38 hK_38 hP_38 hD_38 hS_38 => ?_)
  clear hf_37 hK_37 hP_37 hD_37 hS_37
  refine lv_aload_n hx hb dX12_init_330 rfl (lv_at hl 0 rfl) ?_
  refine lv_bipush (v := 12) hx hb dX12_init_331 (by decide) ?_
  refine mkk (atype := .int) hx hb ht hown hin hA hf_38 hK_38 hP_38 hD_38 hS_38 .int rfl tw_296 (a0 := (12, .inl (fun _ => 0))) (fun _ => rfl) (by decide) (by decide : (12 : Int32).toNatClampNeg = 12) (by decide) (Nat.le_of_ble_eq_true rfl) (Nat.le_of_ble_eq_true rfl) 49 (by decide) tt12_49 tw_2189 (by decide +kernel) dX12_init_333 dX12_init_335 (fun q_81 k_81 H_39 locs_39 hf_39 hK_39 hP_39 hD_39 hS_39 => ?_)
  clear hf_38 hK_38 hP_38 hD_38 hS_38
  refine lv_aload_n hx hb dX12_init_338 rfl (lv_at hl 0 rfl) ?_
  refine lv_sipush (v := 520) hx hb dX12_init_339 (by decide) ?_
  refine mkk (atype := .int) hx hb ht hown hin hA hf_39 hK_39 hP_39 hD_39 hS_39 .int rfl tw_296 (a0 := (520, .inl (fun _ => 0))) (fun _ => rfl) (by decide) (by decide : (520 : Int32).toNatClampNeg = 520) (by decide) (Nat.le_of_ble_eq_true rfl) (Nat.le_of_ble_eq_true rfl) 54 (by decide) tt12_54 tw_2194 (by decide +kernel) dX12_init_342 dX12_init_344 (fun q_83 k_83 H_40 locs_40 hf_40 hK_40 hP_40 hD_40 hS_40 => ?_)
  clear hf_39 hK_39 hP_39 hD_39 hS_39
  refine lv_aload_n hx hb dX12_init_347 rfl (lv_at hl 0 rfl) ?_
  refine lv_sipush (v := 520) hx hb dX12_init_348 (by decide) ?_
  refine mkk (atype := .int) hx hb ht hown hin hA hf_40 hK_40 hP_40 hD_40 hS_40 .int rfl tw_296 (a0 := (520, .inl (fun _ => 0))) (fun _ => rfl) (by decide) (by decide : (520 : Int32).toNatClampNeg = 520) (by decide) (Nat.le_of_ble_eq_true rfl) (Nat.le_of_ble_eq_true rfl) 55 (by decide) tt12_55 tw_2195 (by decide +kernel) dX12_init_351 dX12_init_353 (fun q_85 k_85 H_41 locs_41 hf_41 hK_41 hP_41 hD_41 hS_41 => ?_)
  clear hf_40 hK_40 hP_40 hD_40 hS_40
  refine lv_aload_n hx hb dX12_init_356 rfl (lv_at hl 0 rfl) ?_
  refine lv_sipush (v := 4000) hx hb dX12_init_357 (by decide) ?_
  refine mkd (atype := .int) hx hb ht hown hin hA hf_41 hK_41 hP_41 hD_41 hS_41 .int rfl tw_296 (a0 := (4000, .inl (fun _ => 0))) (fun _ => rfl) (by decide) (by decide : (4000 : Int32).toNatClampNeg = 4000) (by decide) (Nat.le_of_ble_eq_true rfl) (Nat.le_of_ble_eq_true rfl) 56 (by decide) tt12_56 tw_2196 (by decide +kernel) dX12_init_360 dX12_init_362 (fun q_87 H_42 locs_42 hf_42 hP_42 hD_42 hS_42 => ?_)
  clear hf_41 hP_41 hD_41 hS_41
  refine lv_aload_n hx hb dX12_init_365 rfl (lv_at hl 0 rfl) ?_
  refine lv_sipush (v := 4000) hx hb dX12_init_366 (by decide) ?_
  refine mkd (atype := .int) hx hb ht hown hin hA hf_42 hK_41 hP_42 hD_42 hS_42 .int rfl tw_296 (a0 := (4000, .inl (fun _ => 0))) (fun _ => rfl) (by decide) (by decide : (4000 : Int32).toNatClampNeg = 4000) (by decide) (Nat.le_of_ble_eq_true rfl) (Nat.le_of_ble_eq_true rfl) 58 (by decide) tt12_58 tw_2198 (by decide +kernel) dX12_init_369 dX12_init_371 (fun q_90 H_43 locs_43 hf_43 hP_43 hD_43 hS_43 => ?_)
  clear hf_42 hP_42 hD_42 hS_42
  refine lv_aload_n hx hb dX12_init_374 rfl (lv_at hl 0 rfl) ?_
  refine lv_sipush (v := 500) hx hb dX12_init_375 (by decide) ?_
  refine mkd (atype := .int) hx hb ht hown hin hA hf_43 hK_41 hP_43 hD_43 hS_43 .int rfl tw_296 (a0 := (500, .inl (fun _ => 0))) (fun _ => rfl) (by decide) (by decide : (500 : Int32).toNatClampNeg = 500) (by decide) (Nat.le_of_ble_eq_true rfl) (Nat.le_of_ble_eq_true rfl) 60 (by decide) tt12_60 tw_2200 (by decide +kernel) dX12_init_378 dX12_init_380 (fun q_93 H_44 locs_44 hf_44 hP_44 hD_44 hS_44 => ?_)
  clear hf_43 hP_43 hD_43 hS_43
  refine lv_aload_n hx hb dX12_init_383 rfl (lv_at hl 0 rfl) ?_
  refine lv_sipush (v := 220) hx hb dX12_init_384 (by decide) ?_
  refine mkd (atype := .boolean) hx hb ht hown hin hA hf_44 hK_41 hP_44 hD_44 hS_44 .boolean rfl tw_384 (a0 := (220, .inl (fun _ => 0))) (fun _ => rfl) (by decide) (by decide : (220 : Int32).toNatClampNeg = 220) (by decide) (Nat.le_of_ble_eq_true rfl) (Nat.le_of_ble_eq_true rfl) 63 (by decide) tt12_63 tw_2203 (by decide +kernel) dX12_init_387 dX12_init_389 (fun q_96 H_45 locs_45 hf_45 hP_45 hD_45 hS_45 => ?_)
  clear hf_44 hP_44 hD_44 hS_44
  refine lv_aload_n hx hb dX12_init_392 rfl (lv_at hl 0 rfl) ?_
  refine lv_ldc hx hb hown (ht _ tw_2135) dX12_init_393 ?_
  refine mkd (atype := .boolean) hx hb ht hown hin hA hf_45 hK_41 hP_45 hD_45 hS_45 .boolean rfl tw_384 (a0 := (65538, .inl (fun _ => 0))) (fun _ => rfl) (by decide) (by decide : (65538 : Int32).toNatClampNeg = 65538) (by decide) (Nat.le_of_ble_eq_true rfl) (Nat.le_of_ble_eq_true rfl) 64 (by decide) tt12_64 tw_2204 (by decide +kernel) dX12_init_395 dX12_init_397 (fun q_99 H_46 locs_46 hf_46 hP_46 hD_46 hS_46 => ?_)
  clear hf_45 hP_45 hD_45 hS_45
  refine lv_aload_n hx hb dX12_init_400 rfl (lv_at hl 0 rfl) ?_
  refine lv_sipush (v := 3000) hx hb dX12_init_401 (by decide) ?_
  refine mkd (atype := .int) hx hb ht hown hin hA hf_46 hK_41 hP_46 hD_46 hS_46 .int rfl tw_296 (a0 := (3000, .inl (fun _ => 0))) (fun _ => rfl) (by decide) (by decide : (3000 : Int32).toNatClampNeg = 3000) (by decide) (Nat.le_of_ble_eq_true rfl) (Nat.le_of_ble_eq_true rfl) 65 (by decide) tt12_65 tw_2205 (by decide +kernel) dX12_init_404 dX12_init_406 (fun q_102 H_47 locs_47 hf_47 hP_47 hD_47 hS_47 => ?_)
  clear hf_46 hP_46 hD_46 hS_46
  refine lv_aload_n hx hb dX12_init_409 rfl (lv_at hl 0 rfl) ?_
  refine lv_sipush (v := 220) hx hb dX12_init_410 (by decide) ?_
  refine mkd (atype := .boolean) hx hb ht hown hin hA hf_47 hK_41 hP_47 hD_47 hS_47 .boolean rfl tw_384 (a0 := (220, .inl (fun _ => 0))) (fun _ => rfl) (by decide) (by decide : (220 : Int32).toNatClampNeg = 220) (by decide) (Nat.le_of_ble_eq_true rfl) (Nat.le_of_ble_eq_true rfl) 67 (by decide) tt12_67 tw_2207 (by decide +kernel) dX12_init_413 dX12_init_415 (fun q_105 H_48 locs_48 hf_48 hP_48 hD_48 hS_48 => ?_)
  clear hf_47 hP_47 hD_47 hS_47
  refine lv_aload_n hx hb dX12_init_418 rfl (lv_at hl 0 rfl) ?_
  refine lv_iconst (v := 4) hx hb dX12_init_419 (by decide) ?_
  refine mkk (atype := .boolean) hx hb ht hown hin hA hf_48 hK_41 hP_48 hD_48 hS_48 .boolean rfl tw_384 (a0 := (4, .inl (fun _ => 0))) (fun _ => rfl) (by decide) (by decide : (4 : Int32).toNatClampNeg = 4) (by decide) (Nat.le_of_ble_eq_true rfl) (Nat.le_of_ble_eq_true rfl) 68 (by decide) tt12_68 tw_2208 (by decide +kernel) dX12_init_420 dX12_init_422 (fun q_108 k_108 H_49 locs_49 hf_49 hK_49 hP_49 hD_49 hS_49 => ?_)
  clear hf_48 hK_41 hP_48 hD_48 hS_48
  refine lv_aload_n hx hb dX12_init_425 rfl (lv_at hl 0 rfl) ?_
  refine lv_iconst (v := 4) hx hb dX12_init_426 (by decide) ?_
  refine mkk (atype := .int) hx hb ht hown hin hA hf_49 hK_49 hP_49 hD_49 hS_49 .int rfl tw_296 (a0 := (4, .inl (fun _ => 0))) (fun _ => rfl) (by decide) (by decide : (4 : Int32).toNatClampNeg = 4) (by decide) (Nat.le_of_ble_eq_true rfl) (Nat.le_of_ble_eq_true rfl) 69 (by decide) tt12_69 tw_2209 (by decide +kernel) dX12_init_427 dX12_init_429 (fun q_110 k_110 H_50 locs_50 hf_50 hK_50 hP_50 hD_50 hS_50 => ?_)
  clear hf_49 hK_49 hP_49 hD_49 hS_49
  refine lv_aload_n hx hb dX12_init_432 rfl (lv_at hl 0 rfl) ?_
  refine lv_sipush (v := 400) hx hb dX12_init_433 (by decide) ?_
  refine mkk (atype := .int) hx hb ht hown hin hA hf_50 hK_50 hP_50 hD_50 hS_50 .int rfl tw_296 (a0 := (400, .inl (fun _ => 0))) (fun _ => rfl) (by decide) (by decide : (400 : Int32).toNatClampNeg = 400) (by decide) (Nat.le_of_ble_eq_true rfl) (Nat.le_of_ble_eq_true rfl) 70 (by decide) tt12_70 tw_2210 (by decide +kernel) dX12_init_436 dX12_init_438 (fun q_112 k_112 H_51 locs_51 hf_51 hK_51 hP_51 hD_51 hS_51 => ?_)
  clear hf_50 hK_50 hP_50 hD_50 hS_50
  refine lv_aload_n hx hb dX12_init_441 rfl (lv_at hl 0 rfl) ?_
  refine lv_sipush (v := 3000) hx hb dX12_init_442 (by decide) ?_
  refine mkd (atype := .int) hx hb ht hown hin hA hf_51 hK_51 hP_51 hD_51 hS_51 .int rfl tw_296 (a0 := (3000, .inl (fun _ => 0))) (fun _ => rfl) (by decide) (by decide : (3000 : Int32).toNatClampNeg = 3000) (by decide) (Nat.le_of_ble_eq_true rfl) (Nat.le_of_ble_eq_true rfl) 71 (by decide) tt12_71 tw_2211 (by decide +kernel) dX12_init_445 dX12_init_447 (fun q_114 H_52 locs_52 hf_52 hP_52 hD_52 hS_52 => ?_)
  clear hf_51 hP_51 hD_51 hS_51
  refine lv_aload_n hx hb dX12_init_450 rfl (lv_at hl 0 rfl) ?_
  refine lv_sipush (v := 3000) hx hb dX12_init_451 (by decide) ?_
  refine mkd (atype := .int) hx hb ht hown hin hA hf_52 hK_51 hP_52 hD_52 hS_52 .int rfl tw_296 (a0 := (3000, .inl (fun _ => 0))) (fun _ => rfl) (by decide) (by decide : (3000 : Int32).toNatClampNeg = 3000) (by decide) (Nat.le_of_ble_eq_true rfl) (Nat.le_of_ble_eq_true rfl) 72 (by decide) tt12_72 tw_2212 (by decide +kernel) dX12_init_454 dX12_init_456 (fun q_117 H_53 locs_53 hf_53 hP_53 hD_53 hS_53 => ?_)
  clear hf_52 hP_52 hD_52 hS_52
  refine lv_aload_n hx hb dX12_init_459 rfl (lv_at hl 0 rfl) ?_
  refine lv_sipush (v := 3000) hx hb dX12_init_460 (by decide) ?_
  refine mkd (atype := .int) hx hb ht hown hin hA hf_53 hK_51 hP_53 hD_53 hS_53 .int rfl tw_296 (a0 := (3000, .inl (fun _ => 0))) (fun _ => rfl) (by decide) (by decide : (3000 : Int32).toNatClampNeg = 3000) (by decide) (Nat.le_of_ble_eq_true rfl) (Nat.le_of_ble_eq_true rfl) 73 (by decide) tt12_73 tw_2213 (by decide +kernel) dX12_init_463 dX12_init_465 (fun q_120 H_54 locs_54 hf_54 hP_54 hD_54 hS_54 => ?_)
  clear hf_53 hP_53 hD_53 hS_53
  refine lv_aload_n hx hb dX12_init_468 rfl (lv_at hl 0 rfl) ?_
  refine lv_sipush (v := 3000) hx hb dX12_init_469 (by decide) ?_
  refine mkd (atype := .int) hx hb ht hown hin hA hf_54 hK_51 hP_54 hD_54 hS_54 .int rfl tw_296 (a0 := (3000, .inl (fun _ => 0))) (fun _ => rfl) (by decide) (by decide : (3000 : Int32).toNatClampNeg = 3000) (by decide) (Nat.le_of_ble_eq_true rfl) (Nat.le_of_ble_eq_true rfl) 75 (by decide) tt12_75 tw_2215 (by decide +kernel) dX12_init_472 dX12_init_474 (fun q_123 H_55 locs_55 hf_55 hP_55 hD_55 hS_55 => ?_)
  clear hf_54 hP_54 hD_54 hS_54
  refine lv_aload_n hx hb dX12_init_477 rfl (lv_at hl 0 rfl) ?_
  refine lv_sipush (v := 6000) hx hb dX12_init_478 (by decide) ?_
  refine mkd (atype := .int) hx hb ht hown hin hA hf_55 hK_51 hP_55 hD_55 hS_55 .int rfl tw_296 (a0 := (6000, .inl (fun _ => 0))) (fun _ => rfl) (by decide) (by decide : (6000 : Int32).toNatClampNeg = 6000) (by decide) (Nat.le_of_ble_eq_true rfl) (Nat.le_of_ble_eq_true rfl) 77 (by decide) tt12_77 tw_2217 (by decide +kernel) dX12_init_481 dX12_init_483 (fun q_126 H_56 locs_56 hf_56 hP_56 hD_56 hS_56 => ?_)
  clear hf_55 hP_55 hD_55 hS_55
  refine lv_aload_n hx hb dX12_init_486 rfl (lv_at hl 0 rfl) ?_
  refine lv_sipush (v := 6000) hx hb dX12_init_487 (by decide) ?_
  refine mkd (atype := .int) hx hb ht hown hin hA hf_56 hK_51 hP_56 hD_56 hS_56 .int rfl tw_296 (a0 := (6000, .inl (fun _ => 0))) (fun _ => rfl) (by decide) (by decide : (6000 : Int32).toNatClampNeg = 6000) (by decide) (Nat.le_of_ble_eq_true rfl) (Nat.le_of_ble_eq_true rfl) 78 (by decide) tt12_78 tw_2218 (by decide +kernel) dX12_init_490 dX12_init_492 (fun q_129 H_57 locs_57 hf_57 hP_57 hD_57 hS_57 => ?_)
  clear hf_56 hP_56 hD_56 hS_56
  refine lv_aload_n hx hb dX12_init_495 rfl (lv_at hl 0 rfl) ?_
  refine lv_sipush (v := 6000) hx hb dX12_init_496 (by decide) ?_
  refine mkd (atype := .int) hx hb ht hown hin hA hf_57 hK_51 hP_57 hD_57 hS_57 .int rfl tw_296 (a0 := (6000, .inl (fun _ => 0))) (fun _ => rfl) (by decide) (by decide : (6000 : Int32).toNatClampNeg = 6000) (by decide) (Nat.le_of_ble_eq_true rfl) (Nat.le_of_ble_eq_true rfl) 79 (by decide) tt12_79 tw_2219 (by decide +kernel) dX12_init_499 dX12_init_501 (fun q_132 H_58 locs_58 hf_58 hP_58 hD_58 hS_58 => ?_)
  clear hf_57 hP_57 hD_57 hS_57
  refine lv_aload_n hx hb dX12_init_504 rfl (lv_at hl 0 rfl) ?_
  refine lv_sipush (v := 260) hx hb dX12_init_505 (by decide) ?_
  refine mkd (atype := .int) hx hb ht hown hin hA hf_58 hK_51 hP_58 hD_58 hS_58 .int rfl tw_296 (a0 := (260, .inl (fun _ => 0))) (fun _ => rfl) (by decide) (by decide : (260 : Int32).toNatClampNeg = 260) (by decide) (Nat.le_of_ble_eq_true rfl) (Nat.le_of_ble_eq_true rfl) 81 (by decide) tt12_81 tw_2221 (by decide +kernel) dX12_init_508 dX12_init_510 (fun q_135 H_59 locs_59 hf_59 hP_59 hD_59 hS_59 => ?_)
  clear hf_58 hP_58 hD_58 hS_58
  refine lv_aload_n hx hb dX12_init_513 rfl (lv_at hl 0 rfl) ?_
  refine lv_sipush (v := 1130) hx hb dX12_init_514 (by decide) ?_
  refine mkd (atype := .int) hx hb ht hown hin hA hf_59 hK_51 hP_59 hD_59 hS_59 .int rfl tw_296 (a0 := (1130, .inl (fun _ => 0))) (fun _ => rfl) (by decide) (by decide : (1130 : Int32).toNatClampNeg = 1130) (by decide) (Nat.le_of_ble_eq_true rfl) (Nat.le_of_ble_eq_true rfl) 82 (by decide) tt12_82 tw_2222 (by decide +kernel) dX12_init_517 dX12_init_519 (fun q_138 H_60 locs_60 hf_60 hP_60 hD_60 hS_60 => ?_)
  clear hf_59 hP_59 hD_59 hS_59
  refine lv_aload_n hx hb dX12_init_522 rfl (lv_at hl 0 rfl) ?_
  refine lv_ldc hx hb hown (ht _ tw_2136) dX12_init_523 ?_
  refine mkd (atype := .int) hx hb ht hown hin hA hf_60 hK_51 hP_60 hD_60 hS_60 .int rfl tw_296 (a0 := (120000, .inl (fun _ => 0))) (fun _ => rfl) (by decide) (by decide : (120000 : Int32).toNatClampNeg = 120000) (by decide) (Nat.le_of_ble_eq_true rfl) (Nat.le_of_ble_eq_true rfl) 83 (by decide) tt12_83 tw_2223 (by decide +kernel) dX12_init_525 dX12_init_527 (fun q_141 H_61 locs_61 hf_61 hP_61 hD_61 hS_61 => ?_)
  clear hf_60 hP_60 hD_60 hS_60
  refine lv_aload_n hx hb dX12_init_530 rfl (lv_at hl 0 rfl) ?_
  refine lv_ldc hx hb hown (ht _ tw_2136) dX12_init_531 ?_
  refine mkd (atype := .int) hx hb ht hown hin hA hf_61 hK_51 hP_61 hD_61 hS_61 .int rfl tw_296 (a0 := (120000, .inl (fun _ => 0))) (fun _ => rfl) (by decide) (by decide : (120000 : Int32).toNatClampNeg = 120000) (by decide) (Nat.le_of_ble_eq_true rfl) (Nat.le_of_ble_eq_true rfl) 84 (by decide) tt12_84 tw_2224 (by decide +kernel) dX12_init_533 dX12_init_535 (fun q_144 H_62 locs_62 hf_62 hP_62 hD_62 hS_62 => ?_)
  clear hf_61 hP_61 hD_61 hS_61
  refine lv_aload_n hx hb dX12_init_538 rfl (lv_at hl 0 rfl) ?_
  refine lv_ldc hx hb hown (ht _ tw_2137) dX12_init_539 ?_
  refine mkd (atype := .int) hx hb ht hown hin hA hf_62 hK_51 hP_62 hD_62 hS_62 .int rfl tw_296 (a0 := (200000, .inl (fun _ => 0))) (fun _ => rfl) (by decide) (by decide : (200000 : Int32).toNatClampNeg = 200000) (by decide) (Nat.le_of_ble_eq_true rfl) (Nat.le_of_ble_eq_true rfl) 86 (by decide) tt12_86 tw_2226 (by decide +kernel) dX12_init_541 dX12_init_543 (fun q_147 H_63 locs_63 hf_63 hP_63 hD_63 hS_63 => ?_)
  clear hf_62 hP_62 hD_62 hS_62
  refine lv_aload_n hx hb dX12_init_546 rfl (lv_at hl 0 rfl) ?_
  refine lv_ldc hx hb hown (ht _ tw_2137) dX12_init_547 ?_
  refine mkd (atype := .int) hx hb ht hown hin hA hf_63 hK_51 hP_63 hD_63 hS_63 .int rfl tw_296 (a0 := (200000, .inl (fun _ => 0))) (fun _ => rfl) (by decide) (by decide : (200000 : Int32).toNatClampNeg = 200000) (by decide) (Nat.le_of_ble_eq_true rfl) (Nat.le_of_ble_eq_true rfl) 87 (by decide) tt12_87 tw_2227 (by decide +kernel) dX12_init_549 dX12_init_551 (fun q_150 H_64 locs_64 hf_64 hP_64 hD_64 hS_64 => ?_)
  clear hf_63 hP_63 hD_63 hS_63
  refine lv_aload_n hx hb dX12_init_554 rfl (lv_at hl 0 rfl) ?_
  refine lv_ldc hx hb hown (ht _ tw_2137) dX12_init_555 ?_
  refine mkd (atype := .int) hx hb ht hown hin hA hf_64 hK_51 hP_64 hD_64 hS_64 .int rfl tw_296 (a0 := (200000, .inl (fun _ => 0))) (fun _ => rfl) (by decide) (by decide : (200000 : Int32).toNatClampNeg = 200000) (by decide) (Nat.le_of_ble_eq_true rfl) (Nat.le_of_ble_eq_true rfl) 88 (by decide) tt12_88 tw_2228 (by decide +kernel) dX12_init_557 dX12_init_559 (fun q_153 H_65 locs_65 hf_65 hP_65 hD_65 hS_65 => ?_)
  clear hf_64 hP_64 hD_64 hS_64
  refine lv_aload_n hx hb dX12_init_562 rfl (lv_at hl 0 rfl) ?_
  refine lv_ldc hx hb hown (ht _ tw_2137) dX12_init_563 ?_
  refine mkd (atype := .int) hx hb ht hown hin hA hf_65 hK_51 hP_65 hD_65 hS_65 .int rfl tw_296 (a0 := (200000, .inl (fun _ => 0))) (fun _ => rfl) (by decide) (by decide : (200000 : Int32).toNatClampNeg = 200000) (by decide) (Nat.le_of_ble_eq_true rfl) (Nat.le_of_ble_eq_true rfl) 89 (by decide) tt12_89 tw_2229 (by decide +kernel) dX12_init_565 dX12_init_567 (fun q_156 H_66 locs_66 hf_66 hP_66 hD_66 hS_66 => ?_)
  clear hf_65 hP_65 hD_65 hS_65
  refine lv_aload_n hx hb dX12_init_570 rfl (lv_at hl 0 rfl) ?_
  refine lv_ldc hx hb hown (ht _ tw_2138) dX12_init_571 ?_
  refine mkd (atype := .int) hx hb ht hown hin hA hf_66 hK_51 hP_66 hD_66 hS_66 .int rfl tw_296 (a0 := (101000, .inl (fun _ => 0))) (fun _ => rfl) (by decide) (by decide : (101000 : Int32).toNatClampNeg = 101000) (by decide) (Nat.le_of_ble_eq_true rfl) (Nat.le_of_ble_eq_true rfl) 99 (by decide) tt12_99 tw_2239 (by decide +kernel) dX12_init_573 dX12_init_575 (fun q_159 H_67 locs_67 hf_67 hP_67 hD_67 hS_67 => ?_)
  clear hf_66 hP_66 hD_66 hS_66
  refine lv_aload_n hx hb dX12_init_578 rfl (lv_at hl 0 rfl) ?_
  refine lv_bipush (v := 20) hx hb dX12_init_579 (by decide) ?_
  refine mkd (atype := .int) hx hb ht hown hin hA hf_67 hK_51 hP_67 hD_67 hS_67 .int rfl tw_296 (a0 := (20, .inl (fun _ => 0))) (fun _ => rfl) (by decide) (by decide : (20 : Int32).toNatClampNeg = 20) (by decide) (Nat.le_of_ble_eq_true rfl) (Nat.le_of_ble_eq_true rfl) 101 (by decide) tt12_101 tw_2241 (by decide +kernel) dX12_init_581 dX12_init_583 (fun q_162 H_68 locs_68 hf_68 hP_68 hD_68 hS_68 => ?_)
  clear hf_67 hP_67 hD_67 hS_67
  refine lv_aload_n hx hb dX12_init_586 rfl (lv_at hl 0 rfl) ?_
  refine lv_bipush (v := 20) hx hb dX12_init_587 (by decide) ?_
  refine mkd (atype := .int) hx hb ht hown hin hA hf_68 hK_51 hP_68 hD_68 hS_68 .int rfl tw_296 (a0 := (20, .inl (fun _ => 0))) (fun _ => rfl) (by decide) (by decide : (20 : Int32).toNatClampNeg = 20) (by decide) (Nat.le_of_ble_eq_true rfl) (Nat.le_of_ble_eq_true rfl) 107 (by decide) tt12_107 tw_2247 (by decide +kernel) dX12_init_589 dX12_init_591 (fun q_165 H_69 locs_69 hf_69 hP_69 hD_69 hS_69 => ?_)
  clear hf_68 hP_68 hD_68 hS_68
  refine lv_aload_n hx hb dX12_init_594 rfl (lv_at hl 0 rfl) ?_
  refine lv_sipush (v := 2100) hx hb dX12_init_595 (by decide) ?_
  refine mkd (atype := .int) hx hb ht hown hin hA hf_69 hK_51 hP_69 hD_69 hS_69 .int rfl tw_296 (a0 := (2100, .inl (fun _ => 0))) (fun _ => rfl) (by decide) (by decide : (2100 : Int32).toNatClampNeg = 2100) (by decide) (Nat.le_of_ble_eq_true rfl) (Nat.le_of_ble_eq_true rfl) 110 (by decide) tt12_110 tw_2250 (by decide +kernel) dX12_init_598 dX12_init_600 (fun q_168 H_70 locs_70 hf_70 hP_70 hD_70 hS_70 => ?_)
  clear hf_69 hP_69 hD_69 hS_69
  refine lv_aload_n hx hb dX12_init_603 rfl (lv_at hl 0 rfl) ?_
  refine lv_sipush (v := 401) hx hb dX12_init_604 (by decide) ?_
  refine mkd (atype := .int) hx hb ht hown hin hA hf_70 hK_51 hP_70 hD_70 hS_70 .int rfl tw_296 (a0 := (401, .inl (fun _ => 0))) (fun _ => rfl) (by decide) (by decide : (401 : Int32).toNatClampNeg = 401) (by decide) (Nat.le_of_ble_eq_true rfl) (Nat.le_of_ble_eq_true rfl) 112 (by decide) tt12_112 tw_2252 (by decide +kernel) dX12_init_607 dX12_init_609 (fun q_171 H_71 locs_71 hf_71 hP_71 hD_71 hS_71 => ?_)
  clear hf_70 hP_70 hD_70 hS_70
  refine lv_aload_n hx hb dX12_init_612 rfl (lv_at hl 0 rfl) ?_
  refine lv_bipush (v := 64) hx hb dX12_init_613 (by decide) ?_
  refine mkd (atype := .long) hx hb ht hown hin hA hf_71 hK_51 hP_71 hD_71 hS_71 .long rfl tw_757 (a0 := (64, .inr (.inl (fun _ => 0)))) (fun _ => rfl) (by decide) (by decide : (64 : Int32).toNatClampNeg = 64) (by decide) (Nat.le_of_ble_eq_true rfl) (Nat.le_of_ble_eq_true rfl) 114 (by decide) tt12_114 tw_2254 (by decide +kernel) dX12_init_615 dX12_init_617 (fun q_174 H_72 locs_72 hf_72 hP_72 hD_72 hS_72 => ?_)
  clear hf_71 hP_71 hD_71 hS_71
  refine lv_aload_n hx hb dX12_init_620 rfl (lv_at hl 0 rfl) ?_
  refine lv_bipush (v := 64) hx hb dX12_init_621 (by decide) ?_
  refine mkd (atype := .boolean) hx hb ht hown hin hA hf_72 hK_51 hP_72 hD_72 hS_72 .boolean rfl tw_384 (a0 := (64, .inl (fun _ => 0))) (fun _ => rfl) (by decide) (by decide : (64 : Int32).toNatClampNeg = 64) (by decide) (Nat.le_of_ble_eq_true rfl) (Nat.le_of_ble_eq_true rfl) 115 (by decide) tt12_115 tw_2255 (by decide +kernel) dX12_init_623 dX12_init_625 (fun q_177 H_73 locs_73 hf_73 hP_73 hD_73 hS_73 => ?_)
  clear hf_72 hP_72 hD_72 hS_72
  refine lv_aload_n hx hb dX12_init_628 rfl (lv_at hl 0 rfl) ?_
  refine lv_sipush (v := 3000) hx hb dX12_init_629 (by decide) ?_
  refine mkd (atype := .int) hx hb ht hown hin hA hf_73 hK_51 hP_73 hD_73 hS_73 .int rfl tw_296 (a0 := (3000, .inl (fun _ => 0))) (fun _ => rfl) (by decide) (by decide : (3000 : Int32).toNatClampNeg = 3000) (by decide) (Nat.le_of_ble_eq_true rfl) (Nat.le_of_ble_eq_true rfl) 117 (by decide) tt12_117 tw_2257 (by decide +kernel) dX12_init_632 dX12_init_634 (fun q_180 H_74 locs_74 hf_74 hP_74 hD_74 hS_74 => ?_)
  clear hf_73 hP_73 hD_73 hS_73
  refine lv_aload_n hx hb dX12_init_637 rfl (lv_at hl 0 rfl) ?_
  refine lv_bipush (v := 64) hx hb dX12_init_638 (by decide) ?_
  refine mkd (atype := .int) hx hb ht hown hin hA hf_74 hK_51 hP_74 hD_74 hS_74 .int rfl tw_296 (a0 := (64, .inl (fun _ => 0))) (fun _ => rfl) (by decide) (by decide : (64 : Int32).toNatClampNeg = 64) (by decide) (Nat.le_of_ble_eq_true rfl) (Nat.le_of_ble_eq_true rfl) 118 (by decide) tt12_118 tw_2258 (by decide +kernel) dX12_init_640 dX12_init_642 (fun q_183 H_75 locs_75 hf_75 hP_75 hD_75 hS_75 => ?_)
  clear hf_74 hP_74 hD_74 hS_74
  refine lv_aload_n hx hb dX12_init_645 rfl (lv_at hl 0 rfl) ?_
  refine lv_sipush (v := 3000) hx hb dX12_init_646 (by decide) ?_
  refine mkd (atype := .boolean) hx hb ht hown hin hA hf_75 hK_51 hP_75 hD_75 hS_75 .boolean rfl tw_384 (a0 := (3000, .inl (fun _ => 0))) (fun _ => rfl) (by decide) (by decide : (3000 : Int32).toNatClampNeg = 3000) (by decide) (Nat.le_of_ble_eq_true rfl) (Nat.le_of_ble_eq_true rfl) 119 (by decide) tt12_119 tw_2259 (by decide +kernel) dX12_init_649 dX12_init_651 (fun q_186 H_76 locs_76 hf_76 hP_76 hD_76 hS_76 => ?_)
  clear hf_75 hP_75 hD_75 hS_75
  refine lv_aload_n hx hb dX12_init_654 rfl (lv_at hl 0 rfl) ?_
  refine lv_sipush (v := 6100) hx hb dX12_init_655 (by decide) ?_
  refine mkd (atype := .int) hx hb ht hown hin hA hf_76 hK_51 hP_76 hD_76 hS_76 .int rfl tw_296 (a0 := (6100, .inl (fun _ => 0))) (fun _ => rfl) (by decide) (by decide : (6100 : Int32).toNatClampNeg = 6100) (by decide) (Nat.le_of_ble_eq_true rfl) (Nat.le_of_ble_eq_true rfl) 120 (by decide) tt12_120 tw_2260 (by decide +kernel) dX12_init_658 dX12_init_660 (fun q_189 H_77 locs_77 hf_77 hP_77 hD_77 hS_77 => ?_)
  clear hf_76 hP_76 hD_76 hS_76
  refine lv_aload_n hx hb dX12_init_663 rfl (lv_at hl 0 rfl) ?_
  refine lv_iconst (v := 2) hx hb dX12_init_664 (by decide) ?_
  refine mkd (atype := .int) hx hb ht hown hin hA hf_77 hK_51 hP_77 hD_77 hS_77 .int rfl tw_296 (a0 := (2, .inl (fun _ => 0))) (fun _ => rfl) (by decide) (by decide : (2 : Int32).toNatClampNeg = 2) (by decide) (Nat.le_of_ble_eq_true rfl) (Nat.le_of_ble_eq_true rfl) 123 (by decide) tt12_123 tw_2263 (by decide +kernel) dX12_init_665 dX12_init_667 (fun q_192 H_78 locs_78 hf_78 hP_78 hD_78 hS_78 => ?_)
  clear hf_77 hP_77 hD_77 hS_77
  refine lv_aload_n hx hb dX12_init_670 rfl (lv_at hl 0 rfl) ?_
  refine lv_bipush (v := 122) hx hb dX12_init_671 (by decide) ?_
  refine mkd (atype := .long) hx hb ht hown hin hA hf_78 hK_51 hP_78 hD_78 hS_78 .long rfl tw_757 (a0 := (122, .inr (.inl (fun _ => 0)))) (fun _ => rfl) (by decide) (by decide : (122 : Int32).toNatClampNeg = 122) (by decide) (Nat.le_of_ble_eq_true rfl) (Nat.le_of_ble_eq_true rfl) 124 (by decide) tt12_124 tw_2264 (by decide +kernel) dX12_init_673 dX12_init_675 (fun q_195 H_79 locs_79 hf_79 hP_79 hD_79 hS_79 => ?_)
  clear hf_78 hP_78 hD_78 hS_78
  refine lv_aload_n hx hb dX12_init_678 rfl (lv_at hl 0 rfl) ?_
  refine lv_bipush (v := 122) hx hb dX12_init_679 (by decide) ?_
  refine mkd (atype := .boolean) hx hb ht hown hin hA hf_79 hK_51 hP_79 hD_79 hS_79 .boolean rfl tw_384 (a0 := (122, .inl (fun _ => 0))) (fun _ => rfl) (by decide) (by decide : (122 : Int32).toNatClampNeg = 122) (by decide) (Nat.le_of_ble_eq_true rfl) (Nat.le_of_ble_eq_true rfl) 125 (by decide) tt12_125 tw_2265 (by decide +kernel) dX12_init_681 dX12_init_683 (fun q_198 H_80 locs_80 hf_80 hP_80 hD_80 hS_80 => ?_)
  clear hf_79 hP_79 hD_79 hS_79
  refine lv_aload_n hx hb dX12_init_686 rfl (lv_at hl 0 rfl) ?_
  refine lv_bipush (v := 122) hx hb dX12_init_687 (by decide) ?_
  refine mkd (atype := .boolean) hx hb ht hown hin hA hf_80 hK_51 hP_80 hD_80 hS_80 .boolean rfl tw_384 (a0 := (122, .inl (fun _ => 0))) (fun _ => rfl) (by decide) (by decide : (122 : Int32).toNatClampNeg = 122) (by decide) (Nat.le_of_ble_eq_true rfl) (Nat.le_of_ble_eq_true rfl) 126 (by decide) tt12_126 tw_2266 (by decide +kernel) dX12_init_689 dX12_init_691 (fun q_201 H_81 locs_81 hf_81 hP_81 hD_81 hS_81 => ?_)
  clear hf_80 hP_80 hD_80 hS_80
  refine lv_aload_n hx hb dX12_init_694 rfl (lv_at hl 0 rfl) ?_
  refine lv_iconst (v := 2) hx hb dX12_init_695 (by decide) ?_
  refine mkd (atype := .int) hx hb ht hown hin hA hf_81 hK_51 hP_81 hD_81 hS_81 .int rfl tw_296 (a0 := (2, .inl (fun _ => 0))) (fun _ => rfl) (by decide) (by decide : (2 : Int32).toNatClampNeg = 2) (by decide) (Nat.le_of_ble_eq_true rfl) (Nat.le_of_ble_eq_true rfl) 127 (by decide) tt12_127 tw_2267 (by decide +kernel) dX12_init_696 dX12_init_698 (fun q_204 H_82 locs_82 hf_82 hP_82 hD_82 hS_82 => ?_)
  clear hf_81 hP_81 hD_81 hS_81
  refine lv_aload_n hx hb dX12_init_701 rfl (lv_at hl 0 rfl) ?_
  refine lv_sipush (v := 1000) hx hb dX12_init_702 (by decide) ?_
  refine mkd (atype := .long) hx hb ht hown hin hA hf_82 hK_51 hP_82 hD_82 hS_82 .long rfl tw_757 (a0 := (1000, .inr (.inl (fun _ => 0)))) (fun _ => rfl) (by decide) (by decide : (1000 : Int32).toNatClampNeg = 1000) (by decide) (Nat.le_of_ble_eq_true rfl) (Nat.le_of_ble_eq_true rfl) 128 (by decide) tt12_128 tw_2268 (by decide +kernel) dX12_init_705 dX12_init_707 (fun q_207 H_83 locs_83 hf_83 hP_83 hD_83 hS_83 => ?_)
  clear hf_82 hP_82 hD_82 hS_82
  refine lv_aload_n hx hb dX12_init_710 rfl (lv_at hl 0 rfl) ?_
  refine lv_sipush (v := 6000) hx hb dX12_init_711 (by decide) ?_
  refine mkd (atype := .int) hx hb ht hown hin hA hf_83 hK_51 hP_83 hD_83 hS_83 .int rfl tw_296 (a0 := (6000, .inl (fun _ => 0))) (fun _ => rfl) (by decide) (by decide : (6000 : Int32).toNatClampNeg = 6000) (by decide) (Nat.le_of_ble_eq_true rfl) (Nat.le_of_ble_eq_true rfl) 129 (by decide) tt12_129 tw_2269 (by decide +kernel) dX12_init_714 dX12_init_716 (fun q_210 H_84 locs_84 hf_84 hP_84 hD_84 hS_84 => ?_)
  clear hf_83 hP_83 hD_83 hS_83
  refine lv_aload_n hx hb dX12_init_719 rfl (lv_at hl 0 rfl) ?_
  refine lv_ldcw hx hb hown (ht _ tw_2139) dX12_init_720 ?_
  refine mkd (atype := .int) hx hb ht hown hin hA hf_84 hK_51 hP_84 hD_84 hS_84 .int rfl tw_296 (a0 := (61000, .inl (fun _ => 0))) (fun _ => rfl) (by decide) (by decide : (61000 : Int32).toNatClampNeg = 61000) (by decide) (Nat.le_of_ble_eq_true rfl) (Nat.le_of_ble_eq_true rfl) 130 (by decide) tt12_130 tw_2270 (by decide +kernel) dX12_init_723 dX12_init_725 (fun q_213 H_85 locs_85 hf_85 hP_85 hD_85 hS_85 => ?_)
  clear hf_84 hP_84 hD_84 hS_84
  refine lv_aload_n hx hb dX12_init_728 rfl (lv_at hl 0 rfl) ?_
  refine lv_bipush (v := 61) hx hb dX12_init_729 (by decide) ?_
  refine mkd (atype := .int) hx hb ht hown hin hA hf_85 hK_51 hP_85 hD_85 hS_85 .int rfl tw_296 (a0 := (61, .inl (fun _ => 0))) (fun _ => rfl) (by decide) (by decide : (61 : Int32).toNatClampNeg = 61) (by decide) (Nat.le_of_ble_eq_true rfl) (Nat.le_of_ble_eq_true rfl) 131 (by decide) tt12_131 tw_2271 (by decide +kernel) dX12_init_731 dX12_init_733 (fun q_216 H_86 locs_86 hf_86 hP_86 hD_86 hS_86 => ?_)
  clear hf_85 hP_85 hD_85 hS_85
  refine lv_aload_n hx hb dX12_init_736 rfl (lv_at hl 0 rfl) ?_
  refine lv_bipush (v := 61) hx hb dX12_init_737 (by decide) ?_
  refine mkd (atype := .int) hx hb ht hown hin hA hf_86 hK_51 hP_86 hD_86 hS_86 .int rfl tw_296 (a0 := (61, .inl (fun _ => 0))) (fun _ => rfl) (by decide) (by decide : (61 : Int32).toNatClampNeg = 61) (by decide) (Nat.le_of_ble_eq_true rfl) (Nat.le_of_ble_eq_true rfl) 132 (by decide) tt12_132 tw_2272 (by decide +kernel) dX12_init_739 dX12_init_741 (fun q_219 H_87 locs_87 hf_87 hP_87 hD_87 hS_87 => ?_)
  clear hf_86 hP_86 hD_86 hS_86
  refine lv_aload_n hx hb dX12_init_744 rfl (lv_at hl 0 rfl) ?_
  refine lv_sipush (v := 3800) hx hb dX12_init_745 (by decide) ?_
  refine mkd (atype := .int) hx hb ht hown hin hA hf_87 hK_51 hP_87 hD_87 hS_87 .int rfl tw_296 (a0 := (3800, .inl (fun _ => 0))) (fun _ => rfl) (by decide) (by decide : (3800 : Int32).toNatClampNeg = 3800) (by decide) (Nat.le_of_ble_eq_true rfl) (Nat.le_of_ble_eq_true rfl) 133 (by decide) tt12_133 tw_2273 (by decide +kernel) dX12_init_748 dX12_init_750 (fun q_222 H_88 locs_88 hf_88 hP_88 hD_88 hS_88 => ?_)
  clear hf_87 hP_87 hD_87 hS_87
  refine lv_aload_n hx hb dX12_init_753 rfl (lv_at hl 0 rfl) ?_
  refine lv_sipush (v := 3800) hx hb dX12_init_754 (by decide) ?_
  refine mkd (atype := .int) hx hb ht hown hin hA hf_88 hK_51 hP_88 hD_88 hS_88 .int rfl tw_296 (a0 := (3800, .inl (fun _ => 0))) (fun _ => rfl) (by decide) (by decide : (3800 : Int32).toNatClampNeg = 3800) (by decide) (Nat.le_of_ble_eq_true rfl) (Nat.le_of_ble_eq_true rfl) 134 (by decide) tt12_134 tw_2274 (by decide +kernel) dX12_init_757 dX12_init_759 (fun q_225 H_89 locs_89 hf_89 hP_89 hD_89 hS_89 => ?_)
  clear hf_88 hP_88 hD_88 hS_88
  refine lv_aload_n hx hb dX12_init_762 rfl (lv_at hl 0 rfl) ?_
  refine lv_sipush (v := 3800) hx hb dX12_init_763 (by decide) ?_
  refine mkd (atype := .int) hx hb ht hown hin hA hf_89 hK_51 hP_89 hD_89 hS_89 .int rfl tw_296 (a0 := (3800, .inl (fun _ => 0))) (fun _ => rfl) (by decide) (by decide : (3800 : Int32).toNatClampNeg = 3800) (by decide) (Nat.le_of_ble_eq_true rfl) (Nat.le_of_ble_eq_true rfl) 135 (by decide) tt12_135 tw_2275 (by decide +kernel) dX12_init_766 dX12_init_768 (fun q_228 H_90 locs_90 hf_90 hP_90 hD_90 hS_90 => ?_)
  clear hf_89 hP_89 hD_89 hS_89
  refine lv_aload_n hx hb dX12_init_771 rfl (lv_at hl 0 rfl) ?_
  refine lv_sipush (v := 3800) hx hb dX12_init_772 (by decide) ?_
  refine mkd (atype := .int) hx hb ht hown hin hA hf_90 hK_51 hP_90 hD_90 hS_90 .int rfl tw_296 (a0 := (3800, .inl (fun _ => 0))) (fun _ => rfl) (by decide) (by decide : (3800 : Int32).toNatClampNeg = 3800) (by decide) (Nat.le_of_ble_eq_true rfl) (Nat.le_of_ble_eq_true rfl) 136 (by decide) tt12_136 tw_2276 (by decide +kernel) dX12_init_775 dX12_init_777 (fun q_231 H_91 locs_91 hf_91 hP_91 hD_91 hS_91 => ?_)
  clear hf_90 hP_90 hD_90 hS_90
  refine lv_aload_n hx hb dX12_init_780 rfl (lv_at hl 0 rfl) ?_
  refine lv_sipush (v := 3800) hx hb dX12_init_781 (by decide) ?_
  refine mkd (atype := .boolean) hx hb ht hown hin hA hf_91 hK_51 hP_91 hD_91 hS_91 .boolean rfl tw_384 (a0 := (3800, .inl (fun _ => 0))) (fun _ => rfl) (by decide) (by decide : (3800 : Int32).toNatClampNeg = 3800) (by decide) (Nat.le_of_ble_eq_true rfl) (Nat.le_of_ble_eq_true rfl) 137 (by decide) tt12_137 tw_2277 (by decide +kernel) dX12_init_784 dX12_init_786 (fun q_234 H_92 locs_92 hf_92 hP_92 hD_92 hS_92 => ?_)
  clear hf_91 hP_91 hD_91 hS_91
  refine lv_aload_n hx hb dX12_init_789 rfl (lv_at hl 0 rfl) ?_
  refine lv_sipush (v := 3000) hx hb dX12_init_790 (by decide) ?_
  refine mkd (atype := .int) hx hb ht hown hin hA hf_92 hK_51 hP_92 hD_92 hS_92 .int rfl tw_296 (a0 := (3000, .inl (fun _ => 0))) (fun _ => rfl) (by decide) (by decide : (3000 : Int32).toNatClampNeg = 3000) (by decide) (Nat.le_of_ble_eq_true rfl) (Nat.le_of_ble_eq_true rfl) 139 (by decide) tt12_139 tw_2279 (by decide +kernel) dX12_init_793 dX12_init_795 (fun q_237 H_93 locs_93 hf_93 hP_93 hD_93 hS_93 => ?_)
  clear hf_92 hP_92 hD_92 hS_92
  refine lv_aload_n hx hb dX12_init_798 rfl (lv_at hl 0 rfl) ?_
  refine lv_sipush (v := 3000) hx hb dX12_init_799 (by decide) ?_
  refine mkd (atype := .int) hx hb ht hown hin hA hf_93 hK_51 hP_93 hD_93 hS_93 .int rfl tw_296 (a0 := (3000, .inl (fun _ => 0))) (fun _ => rfl) (by decide) (by decide : (3000 : Int32).toNatClampNeg = 3000) (by decide) (Nat.le_of_ble_eq_true rfl) (Nat.le_of_ble_eq_true rfl) 140 (by decide) tt12_140 tw_2280 (by decide +kernel) dX12_init_802 dX12_init_804 (fun q_240 H_94 locs_94 hf_94 hP_94 hD_94 hS_94 => ?_)
  clear hf_93 hP_93 hD_93 hS_93
  refine lv_aload_n hx hb dX12_init_807 rfl (lv_at hl 0 rfl) ?_
  refine lv_sipush (v := 3000) hx hb dX12_init_808 (by decide) ?_
  refine mkd (atype := .int) hx hb ht hown hin hA hf_94 hK_51 hP_94 hD_94 hS_94 .int rfl tw_296 (a0 := (3000, .inl (fun _ => 0))) (fun _ => rfl) (by decide) (by decide : (3000 : Int32).toNatClampNeg = 3000) (by decide) (Nat.le_of_ble_eq_true rfl) (Nat.le_of_ble_eq_true rfl) 141 (by decide) tt12_141 tw_2281 (by decide +kernel) dX12_init_811 dX12_init_813 (fun q_243 H_95 locs_95 hf_95 hP_95 hD_95 hS_95 => ?_)
  clear hf_94 hP_94 hD_94 hS_94
  have hP9 : va_P (dC, dI) vwCl [(h0, .inr (15, [.int 0, .int 0, .ref q_1, .int 0, .int (-1), .ref q_4, .ref q_6, .ref q_8, .ref q_10, .ref q_12, .ref q_14, .ref q_16, .ref q_18, .ref q_20, .ref q_22, .ref q_24, .ref q_26, .ref q_28, .ref q_30, .ref q_32, .ref q_34, .ref q_36, .ref q_39, .ref q_42, .ref q_44, .ref q_46, .ref q_48, .ref q_50, .ref q_52, .ref q_54, .ref q_56, .int 0, .ref q_58, .ref q_61, .int 0, .int 0, .int 0, .int 0, .int 0, .int 0, .ref q_64, .int 0, .ref q_67, .ref q_69, .ref q_71, .ref q_73, .ref q_75, .ref q_77, .ref q_79, .ref q_81, .int 0, .int 0, .int 0, .int 0, .ref q_83, .ref q_85, .ref q_87, .int 0, .ref q_90, .int 0, .ref q_93, .int 0, .int 0, .ref q_96, .ref q_99, .ref q_102, .int 0, .ref q_105, .ref q_108, .ref q_110, .ref q_112, .ref q_114, .ref q_117, .ref q_120, .int 0, .ref q_123, .int 0, .ref q_126, .ref q_129, .ref q_132, .int 0, .ref q_135, .ref q_138, .ref q_141, .ref q_144, .int 0, .ref q_147, .ref q_150, .ref q_153, .ref q_156, .int 0, .int 0, .int 0, .int 0, .int 0, .int 0, .int 0, .int 0, .int 0, .ref q_159, .int 0, .ref q_162, .int 0, .int 0, .int 0, .int 0, .int 0, .ref q_165, .int 0, .int 0, .ref q_168, .int 0, .ref q_171, .int 0, .ref q_174, .ref q_177, .int 0, .ref q_180, .ref q_183, .ref q_186, .ref q_189, .long 0, .int 0, .ref q_192, .ref q_195, .ref q_198, .ref q_201, .ref q_204, .ref q_207, .ref q_210, .ref q_213, .ref q_216, .ref q_219, .ref q_222, .ref q_225, .ref q_228, .ref q_231, .ref q_234, .int 0, .ref q_237, .ref q_240, .ref q_243, .int 0])), (q_1, .inl (k_1, 200, .inl (fun _ => 0))), (q_4, .inl (k_4, 6, .inl (fun _ => 0))), (q_6, .inl (k_6, 6, .inl (fun _ => 0))), (q_8, .inl (k_8, 6, .inl (fun _ => 0))), (q_10, .inl (k_10, 60, .inl (fun _ => 0))), (q_12, .inl (k_12, 1320, .inl (fun _ => 0))), (q_14, .inl (k_14, 1320, .inl (fun _ => 0))), (q_16, .inl (k_16, 1320, .inl (fun _ => 0))), (q_18, .inl (k_18, 1320, .inl (fun _ => 0))), (q_20, .inl (k_20, 1320, .inl (fun _ => 0))), (q_22, .inl (k_22, 1320, .inl (fun _ => 0))), (q_24, .inl (k_24, 1320, .inl (fun _ => 0))), (q_26, .inl (k_26, 1320, .inl (fun _ => 0))), (q_28, .inl (k_28, 1320, .inl (fun _ => 0))), (q_30, .inl (k_30, 1320, .inl (fun _ => 0))), (q_32, .inl (k_32, 1320, .inl (fun _ => 0))), (q_34, .inl (k_34, 1320, .inl (fun _ => 0))), (q_42, .inl (k_42, 260, .inl (fun _ => 0))), (q_44, .inl (k_44, 260, .inl (fun _ => 0))), (q_46, .inl (k_46, 260, .inl (fun _ => 0))), (q_48, .inl (k_48, 260, .inl (fun _ => 0))), (q_50, .inl (k_50, 260, .inl (fun _ => 0))), (q_52, .inl (k_52, 260, .inl (fun _ => 0))), (q_54, .inl (k_54, 260, .inl (fun _ => 0))), (q_56, .inl (k_56, 260, .inl (fun _ => 0))), (q_67, .inl (k_67, 12, .inl (fun _ => 0))), (q_69, .inl (k_69, 12, .inl (fun _ => 0))), (q_71, .inl (k_71, 12, .inl (fun _ => 0))), (q_73, .inl (k_73, 12, .inl (fun _ => 0))), (q_75, .inl (k_75, 12, .inl (fun _ => 0))), (q_77, .inl (k_77, 12, .inl (fun _ => 0))), (q_79, .inl (k_79, 12, .inl (fun _ => 0))), (q_81, .inl (k_81, 12, .inl (fun _ => 0))), (q_83, .inl (k_83, 520, .inl (fun _ => 0))), (q_85, .inl (k_85, 520, .inl (fun _ => 0))), (q_108, .inl (k_108, 4, .inl (fun _ => 0))), (q_110, .inl (k_110, 4, .inl (fun _ => 0))), (q_112, .inl (k_112, 400, .inl (fun _ => 0)))] H_95 := hP_95
  have hD9 : va_D A [(h0, .inr (15, [.int 0, .int 0, .ref q_1, .int 0, .int (-1), .ref q_4, .ref q_6, .ref q_8, .ref q_10, .ref q_12, .ref q_14, .ref q_16, .ref q_18, .ref q_20, .ref q_22, .ref q_24, .ref q_26, .ref q_28, .ref q_30, .ref q_32, .ref q_34, .ref q_36, .ref q_39, .ref q_42, .ref q_44, .ref q_46, .ref q_48, .ref q_50, .ref q_52, .ref q_54, .ref q_56, .int 0, .ref q_58, .ref q_61, .int 0, .int 0, .int 0, .int 0, .int 0, .int 0, .ref q_64, .int 0, .ref q_67, .ref q_69, .ref q_71, .ref q_73, .ref q_75, .ref q_77, .ref q_79, .ref q_81, .int 0, .int 0, .int 0, .int 0, .ref q_83, .ref q_85, .ref q_87, .int 0, .ref q_90, .int 0, .ref q_93, .int 0, .int 0, .ref q_96, .ref q_99, .ref q_102, .int 0, .ref q_105, .ref q_108, .ref q_110, .ref q_112, .ref q_114, .ref q_117, .ref q_120, .int 0, .ref q_123, .int 0, .ref q_126, .ref q_129, .ref q_132, .int 0, .ref q_135, .ref q_138, .ref q_141, .ref q_144, .int 0, .ref q_147, .ref q_150, .ref q_153, .ref q_156, .int 0, .int 0, .int 0, .int 0, .int 0, .int 0, .int 0, .int 0, .int 0, .ref q_159, .int 0, .ref q_162, .int 0, .int 0, .int 0, .int 0, .int 0, .ref q_165, .int 0, .int 0, .ref q_168, .int 0, .ref q_171, .int 0, .ref q_174, .ref q_177, .int 0, .ref q_180, .ref q_183, .ref q_186, .ref q_189, .long 0, .int 0, .ref q_192, .ref q_195, .ref q_198, .ref q_201, .ref q_204, .ref q_207, .ref q_210, .ref q_213, .ref q_216, .ref q_219, .ref q_222, .ref q_225, .ref q_228, .ref q_231, .ref q_234, .int 0, .ref q_237, .ref q_240, .ref q_243, .int 0])), (q_1, .inl (k_1, 200, .inl (fun _ => 0))), (q_4, .inl (k_4, 6, .inl (fun _ => 0))), (q_6, .inl (k_6, 6, .inl (fun _ => 0))), (q_8, .inl (k_8, 6, .inl (fun _ => 0))), (q_10, .inl (k_10, 60, .inl (fun _ => 0))), (q_12, .inl (k_12, 1320, .inl (fun _ => 0))), (q_14, .inl (k_14, 1320, .inl (fun _ => 0))), (q_16, .inl (k_16, 1320, .inl (fun _ => 0))), (q_18, .inl (k_18, 1320, .inl (fun _ => 0))), (q_20, .inl (k_20, 1320, .inl (fun _ => 0))), (q_22, .inl (k_22, 1320, .inl (fun _ => 0))), (q_24, .inl (k_24, 1320, .inl (fun _ => 0))), (q_26, .inl (k_26, 1320, .inl (fun _ => 0))), (q_28, .inl (k_28, 1320, .inl (fun _ => 0))), (q_30, .inl (k_30, 1320, .inl (fun _ => 0))), (q_32, .inl (k_32, 1320, .inl (fun _ => 0))), (q_34, .inl (k_34, 1320, .inl (fun _ => 0))), (q_42, .inl (k_42, 260, .inl (fun _ => 0))), (q_44, .inl (k_44, 260, .inl (fun _ => 0))), (q_46, .inl (k_46, 260, .inl (fun _ => 0))), (q_48, .inl (k_48, 260, .inl (fun _ => 0))), (q_50, .inl (k_50, 260, .inl (fun _ => 0))), (q_52, .inl (k_52, 260, .inl (fun _ => 0))), (q_54, .inl (k_54, 260, .inl (fun _ => 0))), (q_56, .inl (k_56, 260, .inl (fun _ => 0))), (q_67, .inl (k_67, 12, .inl (fun _ => 0))), (q_69, .inl (k_69, 12, .inl (fun _ => 0))), (q_71, .inl (k_71, 12, .inl (fun _ => 0))), (q_73, .inl (k_73, 12, .inl (fun _ => 0))), (q_75, .inl (k_75, 12, .inl (fun _ => 0))), (q_77, .inl (k_77, 12, .inl (fun _ => 0))), (q_79, .inl (k_79, 12, .inl (fun _ => 0))), (q_81, .inl (k_81, 12, .inl (fun _ => 0))), (q_83, .inl (k_83, 520, .inl (fun _ => 0))), (q_85, .inl (k_85, 520, .inl (fun _ => 0))), (q_108, .inl (k_108, 4, .inl (fun _ => 0))), (q_110, .inl (k_110, 4, .inl (fun _ => 0))), (q_112, .inl (k_112, 400, .inl (fun _ => 0)))] := hD_95
  have hK9 : va_K (dC, dI) vwCl [(k_1, .int), (k_4, .boolean), (k_6, .int), (k_8, .int), (k_10, .int), (k_12, .int), (k_14, .int), (k_16, .int), (k_18, .int), (k_20, .int), (k_22, .int), (k_24, .int), (k_26, .int), (k_28, .int), (k_30, .int), (k_32, .boolean), (k_34, .boolean), (k_42, .int), (k_44, .int), (k_46, .int), (k_48, .int), (k_50, .int), (k_52, .int), (k_54, .int), (k_56, .int), (k_67, .int), (k_69, .int), (k_71, .int), (k_73, .int), (k_75, .int), (k_77, .int), (k_79, .int), (k_81, .int), (k_83, .int), (k_85, .int), (k_108, .boolean), (k_110, .int), (k_112, .int)] s := hK_51
  refine W.widen (k := 94) (n := 1386825) (by decide) (by decide) ?_
  exact W.vret hx hb hr (fun t9 ht9 hW9 => ⟨⟨0, rfl, rfl, ⟨q_1, q_4, q_6, q_8, q_10, q_12, q_14, q_16, q_18, q_20, q_22, q_24, q_26, q_28, q_30, q_32, q_34, q_36, q_39, q_42, q_44, q_46, q_48, q_50, q_52, q_54, q_56, q_58, q_61, q_64, q_67, q_69, q_71, q_73, q_75, q_77, q_79, q_81, q_83, q_85, q_87, q_90, q_93, q_96, q_99, q_102, q_105, q_108, q_110, q_112, q_114, q_117, q_120, q_123, q_126, q_129, q_132, q_135, q_138, q_141, q_144, q_147, q_150, q_153, q_156, q_159, q_162, q_165, q_168, q_171, q_174, q_177, q_180, q_183, q_186, q_189, q_192, q_195, q_198, q_201, q_204, q_207, q_210, q_213, q_216, q_219, q_222, q_225, q_228, q_231, q_234, q_237, q_240, q_243, k_1, k_4, k_6, k_8, k_10, k_12, k_14, k_16, k_18, k_20, k_22, k_24, k_26, k_28, k_30, k_32, k_34, k_42, k_44, k_46, k_48, k_50, k_52, k_54, k_56, k_67, k_69, k_71, k_73, k_75, k_77, k_79, k_81, k_83, k_85, k_108, k_110, k_112, by rw [ht9]; exact hP9, va_K.moved hW9.alike hK9, hD9⟩⟩, hS_95.F ht9⟩) hS_95.2.2 dX12_init_816
