theorem gapp {α : Type} {l r : List α} {i : Nat} {x : α} (h : l[i]? = some x) : (l ++ r)[i]? = some x := by
  rw [List.getElem?_append_left (List.getElem?_eq_some_iff.mp h).1]; exact h
section MK
variable {p : Program} {l : Launch} {e : Env} {R : Room} {s : State} {m : MethodId} {args : Array Value} {below : List Frame} {meth : Method} {c : Code} {H : Heap} {locs : List Loc} {cells slots : Nat} {Q : State → Prop} {cc : ByteArray} {pc : Nat} {ls : Array Slot} {rest : List Value} {D : va_G} {A : Nat → Prop} {h0 : Nat} {fs : List Value} {rs : va_W} {tys : List (ClassId × FieldType)}
/-- newarray; putfield of a final field of the reference: the row stays in the world -/
theorem mkk (hx : p.tables.exec = Jvm.exec) (hb : c.code = cc) (ht : ∀ w ∈ TW, w.before args s = true) (hown : s.vm.findClass "PatternWorkshopModel" = some m.cls) (hin : meth.name = "<init>") (hA : ∀ q, s.heap.size ≤ q → A q)
    (hlen : fs.length = 143) (hK : va_K D vwCl tys s) (hP : va_P D vwCl ((h0, .inr (15, fs)) :: rs) H) (hD : va_D A ((h0, .inr (15, fs)) :: rs)) (hS : va_S A s.heap H locs)
    {atype : ArrayType} (ty : FieldType) (hty : newarray.typeOf atype = ty) (harr : Cond.arrayClass (newarray.typeOf atype) ∈ TW) {n : Int32} {N : Nat} {a0 : vp_A} (ha : ∀ cA : ClassId, vp_cell cA a0 = arrV cA N (fun _ => defaultValue ty)) (hn : ¬ n < 0) (hN : n.toNatClampNeg = N) (hbytes : N * componentBytes ty ≤ 536870912) (hcells : cells + 1 ≤ R.cells) (hslots : slots + N ≤ R.slots)
    (k : Nat) (hk : k < 143) {index : Nat} {fn fd : String} (hT : TX12 k = ("PatternWorkshopModel", fn, fd, true)) (hlink : Cond.fieldLink "PatternWorkshopModel" index "PatternWorkshopModel" fn fd ∈ TW) (hd : parseFieldDescriptor fd = some (.array ty))
    (d1 : decode cc pc = .ok (.newarray atype, 2)) (d2 : decode cc (pc + 2) = .ok (.putfield index, 3))
    (kk : ∀ (q : Nat) (cA : ClassId) (H1 : Heap) (locs1 : List Loc), (fs.set k (.ref q)).length = 143 → va_K D vwCl (tys ++ [(cA, ty)]) s → va_P D vwCl ((h0, .inr (15, fs.set k (.ref q))) :: (rs ++ [(q, .inl (cA, a0))])) H1 → va_D A ((h0, .inr (15, fs.set k (.ref q))) :: (rs ++ [(q, .inl (cA, a0))])) → va_S A s.heap H1 locs1 → W p l e R s m args below meth c H1 locs1 (cells + 1) (slots + N) Q (F0 m (pc + 5) ls rest)) :
    W p l e R s m args below meth c H locs cells slots Q (F0 m pc ls (.int n :: .ref h0 :: rest)) := by
  refine va_newa (atype := atype) hx hb (ht _ harr) hty hK hP hD hS hA (a0 := a0) ha hn hN hbytes hcells hslots d1 (fun q cA H1 hK1 hP1 hD1 hS1 => ?_)
  refine va_putF (D := D) (ci := 15) (v := .ref q) (ty := .array ty) (C := RX12) (T := TX12) (N := 143) hx hb ht inX12 tyX12 tyX12_ok nmX12 hown hK1 hP1 hD1 hS1 0 rfl rfl k hk (by rw [hT]; exact ht _ hlink) (by rw [hT]; exact fun _ h9 => h9) (by rw [hT]) hin (by rw [hT]) (by rw [hT]; exact hd) rfl rfl (by rw [hlen]; exact hk) d2 (fun H2 locs2 hP2 hD2 hS2 => ?_)
  exact kk q cA H2 locs2 (by rw [List.length_set]; exact hlen) hK1 hP2 hD2 hS2
/-- the same, the row forgotten -/
theorem mkd (hx : p.tables.exec = Jvm.exec) (hb : c.code = cc) (ht : ∀ w ∈ TW, w.before args s = true) (hown : s.vm.findClass "PatternWorkshopModel" = some m.cls) (hin : meth.name = "<init>") (hA : ∀ q, s.heap.size ≤ q → A q)
    (hlen : fs.length = 143) (hK : va_K D vwCl tys s) (hP : va_P D vwCl ((h0, .inr (15, fs)) :: rs) H) (hD : va_D A ((h0, .inr (15, fs)) :: rs)) (hS : va_S A s.heap H locs)
    {atype : ArrayType} (ty : FieldType) (hty : newarray.typeOf atype = ty) (harr : Cond.arrayClass (newarray.typeOf atype) ∈ TW) {n : Int32} {N : Nat} {a0 : vp_A} (ha : ∀ cA : ClassId, vp_cell cA a0 = arrV cA N (fun _ => defaultValue ty)) (hn : ¬ n < 0) (hN : n.toNatClampNeg = N) (hbytes : N * componentBytes ty ≤ 536870912) (hcells : cells + 1 ≤ R.cells) (hslots : slots + N ≤ R.slots)
    (k : Nat) (hk : k < 143) {index : Nat} {fn fd : String} (hT : TX12 k = ("PatternWorkshopModel", fn, fd, true)) (hlink : Cond.fieldLink "PatternWorkshopModel" index "PatternWorkshopModel" fn fd ∈ TW) (hd : parseFieldDescriptor fd = some (.array ty))
    (d1 : decode cc pc = .ok (.newarray atype, 2)) (d2 : decode cc (pc + 2) = .ok (.putfield index, 3))
    (kk : ∀ (q : Nat) (H1 : Heap) (locs1 : List Loc), (fs.set k (.ref q)).length = 143 → va_P D vwCl ((h0, .inr (15, fs.set k (.ref q))) :: rs) H1 → va_D A ((h0, .inr (15, fs.set k (.ref q))) :: rs) → va_S A s.heap H1 locs1 → W p l e R s m args below meth c H1 locs1 (cells + 1) (slots + N) Q (F0 m (pc + 5) ls rest)) :
    W p l e R s m args below meth c H locs cells slots Q (F0 m pc ls (.int n :: .ref h0 :: rest)) := by
  refine mkk hx hb ht hown hin hA hlen hK hP hD hS ty hty harr ha hn hN hbytes hcells hslots k hk hT hlink hd d1 d2 (fun q cA H1 locs1 h1 hK1 hP1 hD1 hS1 => kk q H1 locs1 h1 ?_ ?_ hS1)
  · intro i x hi
    refine hP1 i x ?_
    cases i with
    | zero => exact hi
    | succ i => exact gapp hi
  · refine ⟨fun i j x y hi hj he => hD1.1 i j x y ?_ ?_ he, fun i x hi => hD1.2 i x ?_⟩
    · cases i with
      | zero => exact hi
      | succ i => exact gapp hi
    · cases j with
      | zero => exact hj
      | succ j => exact gapp hj
    · cases i with
      | zero => exact hi
      | succ i => exact gapp hi
/-- putfield of an int field of the reference -/
theorem mki (hx : p.tables.exec = Jvm.exec) (hb : c.code = cc) (ht : ∀ w ∈ TW, w.before args s = true) (hown : s.vm.findClass "PatternWorkshopModel" = some m.cls)
    (hlen : fs.length = 143) (hK : va_K D vwCl tys s) (hP : va_P D vwCl ((h0, .inr (15, fs)) :: rs) H) (hD : va_D A ((h0, .inr (15, fs)) :: rs)) (hS : va_S A s.heap H locs) {v : Int32}
    (k : Nat) (hk : k < 143) {index : Nat} {fn : String} (hT : TX12 k = ("PatternWorkshopModel", fn, "I", false)) (hlink : Cond.fieldLink "PatternWorkshopModel" index "PatternWorkshopModel" fn "I" ∈ TW)
    (d2 : decode cc pc = .ok (.putfield index, 3))
    (kk : ∀ (H1 : Heap) (locs1 : List Loc), (fs.set k (.int v)).length = 143 → va_P D vwCl ((h0, .inr (15, fs.set k (.int v))) :: rs) H1 → va_D A ((h0, .inr (15, fs.set k (.int v))) :: rs) → va_S A s.heap H1 locs1 → W p l e R s m args below meth c H1 locs1 cells slots Q (F0 m (pc + 3) ls rest)) :
    W p l e R s m args below meth c H locs cells slots Q (F0 m pc ls (.int v :: .ref h0 :: rest)) := by
  refine va_put (D := D) (ci := 15) (v := .int v) (ty := .int) (C := RX12) (T := TX12) (N := 143) hx hb ht inX12 tyX12 tyX12_ok nmX12 hown hK hP hD hS 0 rfl rfl k hk (by rw [hT]; exact ht _ hlink) (by rw [hT]; exact fun _ h9 => h9) (by rw [hT]) (by rw [hT]; show parseFieldDescriptor "I" = some .int; decide +kernel) rfl rfl (by rw [hlen]; exact hk) d2 (fun H2 locs2 hP2 hD2 hS2 => ?_)
  exact kk H2 locs2 (by rw [List.length_set]; exact hlen) hP2 hD2 hS2
end MK
theorem tt12_2 : TX12 2 = ("PatternWorkshopModel", "tape", "[I", true) := rfl
theorem tt12_4 : TX12 4 = ("PatternWorkshopModel", "faultPlace", "I", false) := rfl
theorem tt12_5 : TX12 5 = ("PatternWorkshopModel", "isThere", "[Z", true) := rfl
theorem tt12_6 : TX12 6 = ("PatternWorkshopModel", "many", "[I", true) := rfl
theorem tt12_7 : TX12 7 = ("PatternWorkshopModel", "captures", "[I", true) := rfl
theorem tt12_8 : TX12 8 = ("PatternWorkshopModel", "nameOf", "[I", true) := rfl
theorem tt12_9 : TX12 9 = ("PatternWorkshopModel", "sort", "[I", true) := rfl
theorem tt12_10 : TX12 10 = ("PatternWorkshopModel", "value", "[I", true) := rfl
theorem tt12_11 : TX12 11 = ("PatternWorkshopModel", "least", "[I", true) := rfl
theorem tt12_12 : TX12 12 = ("PatternWorkshopModel", "most", "[I", true) := rfl
theorem tt12_13 : TX12 13 = ("PatternWorkshopModel", "holder", "[I", true) := rfl
theorem tt12_14 : TX12 14 = ("PatternWorkshopModel", "parts", "[I", true) := rfl
theorem tt12_15 : TX12 15 = ("PatternWorkshopModel", "end", "[I", true) := rfl
theorem tt12_16 : TX12 16 = ("PatternWorkshopModel", "size", "[I", true) := rfl
theorem tt12_17 : TX12 17 = ("PatternWorkshopModel", "positions", "[I", true) := rfl
theorem tt12_18 : TX12 18 = ("PatternWorkshopModel", "firstPart", "[I", true) := rfl
theorem tt12_19 : TX12 19 = ("PatternWorkshopModel", "mayEmpty", "[Z", true) := rfl
theorem tt12_20 : TX12 20 = ("PatternWorkshopModel", "inCase", "[Z", true) := rfl
theorem tt12_21 : TX12 21 = ("PatternWorkshopModel", "partBegin", "[I", true) := rfl
theorem tt12_22 : TX12 22 = ("PatternWorkshopModel", "partEnd", "[I", true) := rfl
theorem tt12_23 : TX12 23 = ("PatternWorkshopModel", "newSort", "[I", true) := rfl
theorem tt12_24 : TX12 24 = ("PatternWorkshopModel", "newValue", "[I", true) := rfl
theorem tt12_25 : TX12 25 = ("PatternWorkshopModel", "newLeast", "[I", true) := rfl
theorem tt12_26 : TX12 26 = ("PatternWorkshopModel", "newMost", "[I", true) := rfl
theorem tt12_27 : TX12 27 = ("PatternWorkshopModel", "newFirst", "[I", true) := rfl
theorem tt12_28 : TX12 28 = ("PatternWorkshopModel", "newNext", "[I", true) := rfl
theorem tt12_29 : TX12 29 = ("PatternWorkshopModel", "newMany", "[I", true) := rfl
theorem tt12_30 : TX12 30 = ("PatternWorkshopModel", "newPart", "[I", true) := rfl
theorem tt12_32 : TX12 32 = ("PatternWorkshopModel", "newBegin", "[I", true) := rfl
theorem tt12_33 : TX12 33 = ("PatternWorkshopModel", "newEnd", "[I", true) := rfl
theorem tt12_40 : TX12 40 = ("PatternWorkshopModel", "newNames", "[I", true) := rfl
theorem tt12_42 : TX12 42 = ("PatternWorkshopModel", "groupSort", "[I", true) := rfl
theorem tt12_43 : TX12 43 = ("PatternWorkshopModel", "groupValue", "[I", true) := rfl
theorem tt12_44 : TX12 44 = ("PatternWorkshopModel", "rowFirst", "[I", true) := rfl
theorem tt12_45 : TX12 45 = ("PatternWorkshopModel", "rowLast", "[I", true) := rfl
theorem tt12_46 : TX12 46 = ("PatternWorkshopModel", "rowMany", "[I", true) := rfl
theorem tt12_47 : TX12 47 = ("PatternWorkshopModel", "rowsFirst", "[I", true) := rfl
theorem tt12_48 : TX12 48 = ("PatternWorkshopModel", "rowsLast", "[I", true) := rfl
theorem tt12_49 : TX12 49 = ("PatternWorkshopModel", "rowsMany", "[I", true) := rfl
theorem tt12_54 : TX12 54 = ("PatternWorkshopModel", "waiting", "[I", true) := rfl
theorem tt12_55 : TX12 55 = ("PatternWorkshopModel", "waitingHolder", "[I", true) := rfl
theorem tt12_56 : TX12 56 = ("PatternWorkshopModel", "printed", "[I", true) := rfl
theorem tt12_58 : TX12 58 = ("PatternWorkshopModel", "printedAlso", "[I", true) := rfl
theorem tt12_60 : TX12 60 = ("PatternWorkshopModel", "out", "[I", true) := rfl
theorem tt12_63 : TX12 63 = ("PatternWorkshopModel", "begun", "[Z", true) := rfl
theorem tt12_64 : TX12 64 = ("PatternWorkshopModel", "isBound", "[Z", true) := rfl
theorem tt12_65 : TX12 65 = ("PatternWorkshopModel", "bounds", "[I", true) := rfl
theorem tt12_67 : TX12 67 = ("PatternWorkshopModel", "isRisky", "[Z", true) := rfl
theorem tt12_68 : TX12 68 = ("PatternWorkshopModel", "isSubject", "[Z", true) := rfl
theorem tt12_69 : TX12 69 = ("PatternWorkshopModel", "long0", "[I", true) := rfl
theorem tt12_70 : TX12 70 = ("PatternWorkshopModel", "signs", "[I", true) := rfl
theorem tt12_71 : TX12 71 = ("PatternWorkshopModel", "act", "[I", true) := rfl
theorem tt12_72 : TX12 72 = ("PatternWorkshopModel", "actA", "[I", true) := rfl
theorem tt12_73 : TX12 73 = ("PatternWorkshopModel", "actB", "[I", true) := rfl
theorem tt12_75 : TX12 75 = ("PatternWorkshopModel", "labelAt", "[I", true) := rfl
theorem tt12_77 : TX12 77 = ("PatternWorkshopModel", "task", "[I", true) := rfl
theorem tt12_78 : TX12 78 = ("PatternWorkshopModel", "taskA", "[I", true) := rfl
theorem tt12_79 : TX12 79 = ("PatternWorkshopModel", "taskB", "[I", true) := rfl
theorem tt12_81 : TX12 81 = ("PatternWorkshopModel", "held", "[I", true) := rfl
theorem tt12_82 : TX12 82 = ("PatternWorkshopModel", "reg", "[I", true) := rfl
theorem tt12_83 : TX12 83 = ("PatternWorkshopModel", "trailOf", "[I", true) := rfl
theorem tt12_84 : TX12 84 = ("PatternWorkshopModel", "trailOld", "[I", true) := rfl
theorem tt12_86 : TX12 86 = ("PatternWorkshopModel", "choiceSort", "[I", true) := rfl
theorem tt12_87 : TX12 87 = ("PatternWorkshopModel", "choiceAct", "[I", true) := rfl
theorem tt12_88 : TX12 88 = ("PatternWorkshopModel", "choicePlace", "[I", true) := rfl
theorem tt12_89 : TX12 89 = ("PatternWorkshopModel", "choiceTrail", "[I", true) := rfl
theorem tt12_99 : TX12 99 = ("PatternWorkshopModel", "seen", "[I", true) := rfl
theorem tt12_101 : TX12 101 = ("PatternWorkshopModel", "found", "[I", true) := rfl
theorem tt12_107 : TX12 107 = ("PatternWorkshopModel", "span", "[I", true) := rfl
theorem tt12_110 : TX12 110 = ("PatternWorkshopModel", "finds", "[I", true) := rfl
theorem tt12_112 : TX12 112 = ("PatternWorkshopModel", "madeSigns", "[I", true) := rfl
theorem tt12_114 : TX12 114 = ("PatternWorkshopModel", "follows", "[J", true) := rfl
theorem tt12_115 : TX12 115 = ("PatternWorkshopModel", "endsAfter", "[Z", true) := rfl
theorem tt12_117 : TX12 117 = ("PatternWorkshopModel", "eaterOf", "[I", true) := rfl
theorem tt12_118 : TX12 118 = ("PatternWorkshopModel", "eaterNode", "[I", true) := rfl
theorem tt12_119 : TX12 119 = ("PatternWorkshopModel", "isGone", "[Z", true) := rfl
theorem tt12_120 : TX12 120 = ("PatternWorkshopModel", "walk", "[I", true) := rfl
theorem tt12_123 : TX12 123 = ("PatternWorkshopModel", "states", "[I", true) := rfl
theorem tt12_124 : TX12 124 = ("PatternWorkshopModel", "stateSet", "[J", true) := rfl
theorem tt12_125 : TX12 125 = ("PatternWorkshopModel", "isTaken", "[Z", true) := rfl
theorem tt12_126 : TX12 126 = ("PatternWorkshopModel", "isLive", "[Z", true) := rfl
theorem tt12_127 : TX12 127 = ("PatternWorkshopModel", "classes", "[I", true) := rfl
theorem tt12_128 : TX12 128 = ("PatternWorkshopModel", "classTakes", "[J", true) := rfl
theorem tt12_129 : TX12 129 = ("PatternWorkshopModel", "classOf", "[I", true) := rfl
theorem tt12_130 : TX12 130 = ("PatternWorkshopModel", "leads", "[I", true) := rfl
theorem tt12_131 : TX12 131 = ("PatternWorkshopModel", "group", "[I", true) := rfl
theorem tt12_132 : TX12 132 = ("PatternWorkshopModel", "newGroup", "[I", true) := rfl
theorem tt12_133 : TX12 133 = ("PatternWorkshopModel", "pairA", "[I", true) := rfl
theorem tt12_134 : TX12 134 = ("PatternWorkshopModel", "pairB", "[I", true) := rfl
theorem tt12_135 : TX12 135 = ("PatternWorkshopModel", "pairFrom", "[I", true) := rfl
theorem tt12_136 : TX12 136 = ("PatternWorkshopModel", "pairSign", "[I", true) := rfl
theorem tt12_137 : TX12 137 = ("PatternWorkshopModel", "isPair", "[Z", true) := rfl
theorem tt12_139 : TX12 139 = ("PatternWorkshopModel", "sortA", "[I", true) := rfl
theorem tt12_140 : TX12 140 = ("PatternWorkshopModel", "sortB", "[I", true) := rfl
theorem tt12_141 : TX12 141 = ("PatternWorkshopModel", "sortSign", "[I", true) := rfl
