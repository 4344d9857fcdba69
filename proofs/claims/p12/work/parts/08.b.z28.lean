def zG (g : Nat → Int32) : Int → Int := fun j => if j < 0 then 0 else zg g j
theorem zG_at {g : Nat → Int32} {j : Int} (h : 0 ≤ j) : zG g j = zg g j := if_neg (by omega)
theorem zG_upd {g : Nat → Int32} {r v : Int32} (h : 0 ≤ r.toInt) : zG (upd g r.toNatClampNeg v) = zfs (zG g) r.toInt v.toInt := by
  funext j; unfold zfs
  by_cases e : j = r.toInt
  · rw [if_pos e, e, zG_at h]; exact zg_eq
  · rw [if_neg e]
    by_cases n : j < 0
    · unfold zG; rw [if_pos n, if_pos n]
    · rw [zG_at (by omega), zG_at (by omega)]; exact zg_ne h (by omega) e
def zWf (fr lg : Int) (f : Int → Int) : List (Int × Int) → Int → Int → Prop
  | [], p, c => fr ≤ p ∧ p ≤ lg ∧ 0 ≤ c
  | (k, a) :: G, p, c => (k = 0 ∧ 0 ≤ f (20 + a) ∧ f (20 + a) ≤ p ∧ zWf fr lg f G p c) ∨ (k = 1 ∧ 0 ≤ f (470 + a) ∧ f (470 + a) ≤ c ∧ zWf fr lg f G p (f (470 + a))) ∨ (k = 2 ∧ 0 ≤ p ∧ p ≤ lg ∧ 0 ≤ f (470 + a) ∧ f (470 + a) ≤ c ∧ zWf fr lg f G (f (690 + a)) (f (470 + a)))
theorem zWf_le {fr lg : Int} {f : Int → Int} (h0 : 0 ≤ fr) : ∀ {G : List (Int × Int)} {p c : Int}, zWf fr lg f G p c → 0 ≤ p ∧ p ≤ lg ∧ 0 ≤ c := by
  intro G; induction G with
  | nil => intro p c h; obtain ⟨h1, h2, h3⟩ := h; omega
  | cons x G ih =>
    obtain ⟨k, a⟩ := x
    intro p c h
    rcases h with ⟨_, h1, h2, h3⟩ | ⟨_, h1, h2, h3⟩ | ⟨_, h1, h2, h3, h4, h5⟩
    · exact ih h3
    · have := ih h3; omega
    · omega
theorem zWf_mono {fr lg : Int} {f : Int → Int} (h0 : 0 ≤ fr) : ∀ {G : List (Int × Int)} {p p' c c' : Int}, p ≤ p' → p' ≤ lg → c ≤ c' → zWf fr lg f G p c → zWf fr lg f G p' c' := by
  intro G; induction G with
  | nil => intro p p' c c' h1 h2 h3 h; obtain ⟨a, b, d⟩ := h; exact ⟨by omega, h2, by omega⟩
  | cons x G ih =>
    obtain ⟨k, a⟩ := x
    intro p p' c c' h1 h2 h3 h
    rcases h with ⟨e, g1, g2, g3⟩ | ⟨e, g1, g2, g3⟩ | ⟨e, g1, g2, g3, g4, g5⟩
    · exact Or.inl ⟨e, g1, by omega, ih h1 h2 h3 g3⟩
    · exact Or.inr (Or.inl ⟨e, g1, by omega, ih h1 h2 (Int.le_refl _) g3⟩)
    · exact Or.inr (Or.inr ⟨e, by omega, h2, g3, by omega, g5⟩)
def zFree (r : Int) : List (Int × Int) → Prop
  | [] => True
  | (k, a) :: G => (k = 0 → r ≠ 20 + a) ∧ (k ≠ 0 → r ≠ 470 + a ∧ r ≠ 690 + a) ∧ zFree r G
theorem zWf_set {fr lg r v : Int} {f : Int → Int} : ∀ {G : List (Int × Int)} {p c : Int}, zFree r G → zWf fr lg f G p c → zWf fr lg (zfs f r v) G p c := by
  intro G; induction G with
  | nil => intro p c _ h; exact h
  | cons x G ih =>
    obtain ⟨k, a⟩ := x
    intro p c hf h
    obtain ⟨f1, f2, f3⟩ := hf
    have ne : ∀ j : Int, j ≠ r → zfs f r v j = f j := fun j hj => if_neg hj
    rcases h with ⟨e, g1, g2, g3⟩ | ⟨e, g1, g2, g3⟩ | ⟨e, g1, g2, g3, g4, g5⟩
    · have q := ne (20 + a) (fun z => f1 e z.symm)
      exact Or.inl ⟨e, by rw [q]; exact g1, by rw [q]; exact g2, ih f3 g3⟩
    · have q := ne (470 + a) (fun z => (f2 (by omega)).1 z.symm)
      exact Or.inr (Or.inl ⟨e, by rw [q]; exact g1, by rw [q]; exact g2, by rw [q]; exact ih f3 g3⟩)
    · have q := ne (470 + a) (fun z => (f2 (by omega)).1 z.symm)
      have q2 := ne (690 + a) (fun z => (f2 (by omega)).2 z.symm)
      exact Or.inr (Or.inr ⟨e, g1, g2, by rw [q]; exact g3, by rw [q]; exact g4, by rw [q, q2]; exact ih f3 g5⟩)
theorem zWf_cap {fr lg a p c : Int} {f : Int → Int} {G : List (Int × Int)} (h0 : 0 ≤ fr) (h : zWf fr lg f G p c) (hf : zFree (20 + a) G) : zWf fr lg (zfs f (20 + a) p) ((0, a) :: G) p c := by
  have e : zfs f (20 + a) p (20 + a) = p := if_pos rfl
  have := zWf_le h0 h
  exact Or.inl ⟨rfl, by rw [e]; omega, by rw [e]; exact Int.le_refl _, zWf_set hf h⟩
theorem zWf_cut {fr lg a p c : Int} {f : Int → Int} {G : List (Int × Int)} (h0 : 0 ≤ fr) (h : zWf fr lg f G p c) (hf : zFree (470 + a) G) : zWf fr lg (zfs f (470 + a) c) ((1, a) :: G) p c := by
  have e : zfs f (470 + a) c (470 + a) = c := if_pos rfl
  have := zWf_le h0 h
  exact Or.inr (Or.inl ⟨rfl, by rw [e]; omega, by rw [e]; exact Int.le_refl _, by rw [e]; exact zWf_set hf h⟩)
theorem zWf_look {fr lg a p c : Int} {f : Int → Int} {G : List (Int × Int)} (h0 : 0 ≤ fr) (h : zWf fr lg f G p c) (hf : zFree (470 + a) G) (hf2 : zFree (690 + a) G) : zWf fr lg (zfs (zfs f (470 + a) c) (690 + a) p) ((2, a) :: G) p c := by
  have e : zfs (zfs f (470 + a) c) (690 + a) p (470 + a) = c := by unfold zfs; rw [if_neg (by omega), if_pos rfl]
  have e2 : zfs (zfs f (470 + a) c) (690 + a) p (690 + a) = p := if_pos rfl
  have := zWf_le h0 h
  exact Or.inr (Or.inr ⟨rfl, by omega, by omega, by rw [e]; omega, by rw [e]; exact Int.le_refl _, by rw [e, e2]; exact zWf_set hf2 (zWf_set hf h)⟩)
