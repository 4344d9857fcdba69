def vL {α : Type} (l : List α) (d : α) : Nat → α := fun q => l.getD q d
theorem va_kkz {D : va_G} {cl : List vw_C} {tys : List (ClassId × FieldType)} {U : State} {k1 k2 : ClassId} (hK : va_K D cl tys U) (i j : Nat) (h1 : tys[i]? = some (k1, .boolean)) (h2 : tys[j]? = some (k2, .boolean)) : k1 = k2 := by
  have a : U.vm.findClass ("[" ++ (FieldType.boolean).toString) = some k1 := (hK.2 i _ h1).2
  have b : U.vm.findClass ("[" ++ (FieldType.boolean).toString) = some k2 := (hK.2 j _ h2).2
  exact Option.some.inj (a.symm.trans b)
theorem va_kkj {D : va_G} {cl : List vw_C} {tys : List (ClassId × FieldType)} {U : State} {k1 k2 : ClassId} (hK : va_K D cl tys U) (i j : Nat) (h1 : tys[i]? = some (k1, .long)) (h2 : tys[j]? = some (k2, .long)) : k1 = k2 := by
  have a : U.vm.findClass ("[" ++ (FieldType.long).toString) = some k1 := (hK.2 i _ h1).2
  have b : U.vm.findClass ("[" ++ (FieldType.long).toString) = some k2 := (hK.2 j _ h2).2
  exact Option.some.inj (a.symm.trans b)
theorem GI_of {D : va_G} {cl : List vw_C} {A : Nat → Prop} {H : Heap} {gs : List Nat} {Xs : List va_W} (hn : gs.Nodup) (hl : gs.length = Xs.length) (hP : va_P D cl Xs.flatten H) (hD : va_D A Xs.flatten) : GI D cl (upL (fun _ => []) gs Xs) A H := by
  have e : gs.flatMap (upL (fun _ => []) gs Xs) = Xs.flatten := by rw [fm_flat, upL_map hn hl]
  have hd := gi_D.mp hD
  rw [← e] at hd hP
  have hp := List.pairwise_flatMap.mp hd.1
  refine ⟨fun g => ?_, fun g => ?_, fun g g' n p hp1 q hq1 => ?_⟩
  · by_cases hg : g ∈ gs
    · intro k q hq
      obtain ⟨i, hi⟩ := gi_at (List.mem_flatMap.mpr ⟨g, hg, List.mem_of_getElem? hq⟩)
      exact hP i q hi
    · rw [upL_ne hg]; intro k q hq; simp at hq
  · by_cases hg : g ∈ gs
    · exact gi_D.mpr ⟨hp.1 g hg, fun p hp2 => hd.2 p (List.mem_flatMap.mpr ⟨g, hg, hp2⟩)⟩
    · rw [upL_ne hg]; exact gi_D.mpr ⟨List.Pairwise.nil, fun p h => by cases h⟩
  · by_cases hg : g ∈ gs
    · by_cases hgω : g' ∈ gs
      · exact gi_pw (R := fun a b => ∀ x ∈ upL (fun _ => []) gs Xs a, ∀ y ∈ upL (fun _ => []) gs Xs b, x.1 ≠ y.1) (fun a b r x hx y hy e2 => r y hy x hx e2.symm) hp.2 g hg g' hgω n p hp1 q hq1
      · rw [upL_ne hgω] at hq1; cases hq1
    · rw [upL_ne hg] at hp1; cases hp1
theorem zAll_n {it : Nat → Bool} {ma ca so va le mo ho pa en fp pb pe sz ps : Nat → Int32} (h : ∀ k : Nat, it k = false) : zAll it ma ca so va le mo ho pa en fp pb pe sz ps := fun s _ _ z => by rw [h] at z; cases z
theorem exi_1 {P : Nat → Prop} (a0 : Nat) (h : P a0) : ∃ (a0 : Nat), P a0 := ⟨a0, h⟩
theorem inJ0 : ∀ w ∈ u_ws RJ0 TJ0 2, w ∈ TW := in_of [2100, 2102] (by decide +kernel) (by decide +kernel)
theorem inJx00060 : ∀ w ∈ u_ws RJx00060 TJx00060 6, w ∈ TW := in_of [2087, 2088, 2089, 2090, 2091, 2092] (by decide +kernel) (by decide +kernel)
theorem inJx5d777 : ∀ w ∈ u_ws RJx5d777 TJx5d777 8, w ∈ TW := in_of [2042, 2044, 2046, 2048, 2050, 2052, 2038, 2040] (by decide +kernel) (by decide +kernel)
theorem EX.of {A : Array Value} {s : State} (hts : ∀ w ∈ lw_tbl, w.before A s = true) : EX s := ⟨va_AO.of (hts _ (tb_0 (List.mem_of_getElem? (i := 63) rfl))), va_AO.of (hts _ (tb_0 (List.mem_of_getElem? (i := 64) rfl))), va_AO.of (hts _ (tb_0 (List.mem_of_getElem? (i := 72) rfl))), va_Nw.of rfl (hts _ (tb_0 (List.mem_of_getElem? (i := 151) rfl))), va_Nw.of rfl (hts _ (tb_1 (List.mem_of_getElem? (i := 22) rfl))), va_Nw.of rfl (hts _ (tb_1 (List.mem_of_getElem? (i := 37) rfl))), va_Nw.of rfl (hts _ (tb_1 (List.mem_of_getElem? (i := 106) rfl))), va_Nw.of rfl (hts _ (tb_1 (List.mem_of_getElem? (i := 112) rfl))), va_Nw.of rfl (hts _ (tb_1 (List.mem_of_getElem? (i := 198) rfl))), va_Nw.of rfl (hts _ (tb_1 (List.mem_of_getElem? (i := 204) rfl))), va_Nw.of rfl (hts _ (tb_1 (List.mem_of_getElem? (i := 220) rfl))), va_Nw.of rfl (hts _ (tb_1 (List.mem_of_getElem? (i := 225) rfl))), va_Nw.of rfl (hts _ (tb_3 (List.mem_of_getElem? (i := 0) rfl))), va_Nw.of rfl (hts _ (tb_3 (List.mem_of_getElem? (i := 34) rfl))), va_Nw.of rfl (hts _ (tb_3 (List.mem_of_getElem? (i := 37) rfl))), va_Nw.of rfl (hts _ (tb_3 (List.mem_of_getElem? (i := 38) rfl))), va_Nw.of rfl (hts _ (tb_4 (List.mem_of_getElem? (i := 24) rfl))), va_Nw.of rfl (hts _ (tb_4 (List.mem_of_getElem? (i := 32) rfl))), va_Nw.of rfl (hts _ (tb_4 (List.mem_of_getElem? (i := 106) rfl))), va_Nw.of rfl (hts _ (tb_5 (List.mem_of_getElem? (i := 70) rfl))), va_Nw.of rfl (hts _ (tb_5 (List.mem_of_getElem? (i := 180) rfl))), va_Nw.of rfl (hts _ (tb_5 (List.mem_of_getElem? (i := 198) rfl)))⟩

