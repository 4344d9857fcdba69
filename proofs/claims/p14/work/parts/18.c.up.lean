def upL (c : Nat → va_W) : List Nat → List va_W → Nat → va_W
  | [], _ => c
  | _ :: _, [] => c
  | g :: gs, X :: Xs => fun k => if k = g then X else upL c gs Xs k
theorem upL_ne {c : Nat → va_W} {gs : List Nat} {Xs : List va_W} {k : Nat} (h : k ∉ gs) : upL c gs Xs k = c k := by
  induction gs generalizing Xs with
  | nil => rfl
  | cons g gs ih =>
    cases Xs with
    | nil => rfl
    | cons X Xs =>
      show (if k = g then X else upL c gs Xs k) = c k
      rw [if_neg (fun e => h (by rw [e]; exact List.mem_cons_self))]
      exact ih (fun z => h (List.mem_cons_of_mem _ z))
theorem upL_map {c : Nat → va_W} {gs : List Nat} {Xs : List va_W} (hn : gs.Nodup) (hl : gs.length = Xs.length) : gs.map (upL c gs Xs) = Xs := by
  induction gs generalizing Xs with
  | nil =>
    cases Xs with
    | nil => rfl
    | cons X Xs => cases hl
  | cons g gs ih =>
    cases Xs with
    | nil => cases hl
    | cons X Xs =>
      obtain ⟨h1, h2⟩ := List.nodup_cons.mp hn
      have e : gs.map (upL c (g :: gs) (X :: Xs)) = gs.map (upL c gs Xs) := by
        apply List.map_congr_left
        intro k hk
        show (if k = g then X else upL c gs Xs k) = upL c gs Xs k
        rw [if_neg (fun e => h1 (by rw [← e]; exact hk))]
      rw [List.map_cons, e, ih h2 (Nat.succ.inj hl)]
      show (if g = g then X else upL c gs Xs g) :: Xs = X :: Xs
      rw [if_pos rfl]
theorem upL_at {c : Nat → va_W} {gs : List Nat} {Xs : List va_W} {g : Nat} {X : va_W} (hn : gs.Nodup) (hl : gs.length = Xs.length) (i : Nat) (h1 : gs[i]? = some g) (h2 : Xs[i]? = some X) : upL c gs Xs g = X := by
  have h9 : (gs.map (upL c gs Xs))[i]? = Xs[i]? := by rw [upL_map hn hl]
  rw [List.getElem?_map, h1, h2] at h9
  exact Option.some.inj h9
theorem fm_flat {c : Nat → va_W} {gs : List Nat} : gs.flatMap c = (gs.map c).flatten := rfl
theorem GI.PL {D : va_G} {cl : List vw_C} {c : Nat → va_W} {A : Nat → Prop} {H : Heap} {gs : List Nat} {Ys : List va_W} (h : GI D cl c A H) (hM : gs.map c = Ys) : va_P D cl Ys.flatten H := by
  have h9 := h.P gs
  rw [fm_flat, hM] at h9
  exact h9
theorem GI.DL {D : va_G} {cl : List vw_C} {c : Nat → va_W} {A : Nat → Prop} {H : Heap} {gs : List Nat} {Ys : List va_W} (h : GI D cl c A H) (hn : gs.Nodup) (hM : gs.map c = Ys) : va_D A Ys.flatten := by
  have h9 := h.D hn
  rw [fm_flat, hM] at h9
  exact h9
theorem GI.putL {D : va_G} {cl : List vw_C} {c : Nat → va_W} {A : Nat → Prop} {H H1 : Heap} {gs : List Nat} {Ys Xs : List va_W} {wc : va_W} (h : GI D cl c A H) (hn : gs.Nodup) (hM : gs.map c = Ys) (hl : gs.length = Xs.length) (hw : ∀ q, va_A wc H.size q → va_A Ys.flatten H.size q) (hk : ∀ q : Nat, q < H.size → ¬ va_A wc H.size q → H1[q]? = H[q]?) (hA : ∀ q : Nat, H.size ≤ q → A q) (hP : va_P D cl Xs.flatten H1) (hD : va_D (va_A Ys.flatten H.size) Xs.flatten) : GI D cl (upL c gs Xs) A H1 := by
  have e1 : gs.flatMap c = Ys.flatten := by rw [fm_flat, hM]
  have e2 : gs.flatMap (upL c gs Xs) = Xs.flatten := by rw [fm_flat, upL_map hn hl]
  refine h.put (wc := wc) hn (fun g hg => upL_ne hg) (by rw [e1]; exact hw) hk hA (by rw [e2]; exact hP) (by rw [e1, e2]; exact hD)
theorem slot6 (x : Int32) : ∃ k : Nat, k < 6 ∧ (0 ≤ x.toInt → x.toInt < 6 → x.toNatClampNeg = k) := by
  by_cases h : 0 ≤ x.toInt ∧ x.toInt < 6
  · have e := i_cl h.1
    exact ⟨x.toNatClampNeg, by omega, fun _ _ => rfl⟩
  · exact ⟨0, by omega, fun a b => absurd ⟨a, b⟩ h⟩
theorem subj4 (x : Int32) : ∃ k : Nat, k < 4 ∧ (0 ≤ x.toInt → x.toInt < 4 → x.toNatClampNeg = k) := by
  by_cases h : 0 ≤ x.toInt ∧ x.toInt < 4
  · have e := i_cl h.1
    exact ⟨x.toNatClampNeg, by omega, fun _ _ => rfl⟩
  · exact ⟨0, by omega, fun a b => absurd ⟨a, b⟩ h⟩
theorem zGi_zGo {ig : Bool} {it : Nat → Bool} {l0 : Nat → Int32} {s k f st : Int} (h : zGi ig it l0 s k f st) : zGo ig it s := fun z => (h z).1.2
