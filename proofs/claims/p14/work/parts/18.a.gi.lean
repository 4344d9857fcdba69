def GI (D : va_G) (cl : List vw_C) (c : Nat → va_W) (A : Nat → Prop) (H : Heap) : Prop := (∀ g, va_P D cl (c g) H) ∧ (∀ g, va_D A (c g)) ∧ ∀ g g' : Nat, g ≠ g' → ∀ p ∈ c g, ∀ q ∈ c g', p.1 ≠ q.1
theorem gi_at {w : va_W} {p : Nat × va_E} (h : p ∈ w) : ∃ i : Nat, w[i]? = some p := List.mem_iff_getElem?.mp h
theorem gi_D {A : Nat → Prop} {w : va_W} : va_D A w ↔ w.Pairwise (fun p q => p.1 ≠ q.1) ∧ ∀ p ∈ w, A p.1 := by
  constructor
  · intro h
    refine ⟨List.pairwise_iff_getElem.mpr (fun i j hi hj hij e => ?_), fun p hp => ?_⟩
    · have h9 := h.1 i j _ _ (List.getElem?_eq_getElem hi) (List.getElem?_eq_getElem hj) e
      omega
    · obtain ⟨i, hi⟩ := gi_at hp
      exact h.2 i p hi
  · intro h
    refine ⟨fun i j p q hi hj e => ?_, fun k q hk => h.2 q (List.mem_of_getElem? hk)⟩
    obtain ⟨li, ei⟩ := List.getElem?_eq_some_iff.mp hi
    obtain ⟨lj, ej⟩ := List.getElem?_eq_some_iff.mp hj
    have hp := List.pairwise_iff_getElem.mp h.1
    rcases Nat.lt_trichotomy i j with z | z | z
    · exact absurd (by rw [ei, ej]; exact e) (hp i j li lj z)
    · exact z
    · exact absurd (by rw [ei, ej]; exact e.symm) (hp j i lj li z)
theorem gi_pw {R : Nat → Nat → Prop} (hs : ∀ a b, R a b → R b a) {l : List Nat} (h : l.Pairwise R) : ∀ a ∈ l, ∀ b ∈ l, a ≠ b → R a b := by
  induction l with
  | nil => intro a ha; cases ha
  | cons x l ih =>
    intro a ha b hb n
    obtain ⟨h1, h2⟩ := List.pairwise_cons.mp h
    rcases List.mem_cons.mp ha with e | ha
    · rcases List.mem_cons.mp hb with f | hb
      · exact absurd (e.trans f.symm) n
      · rw [e]; exact h1 b hb
    · rcases List.mem_cons.mp hb with f | hb
      · rw [f]; exact hs _ _ (h1 a ha)
      · exact ih h2 a ha b hb n
theorem GI.P {D : va_G} {cl : List vw_C} {c : Nat → va_W} {A : Nat → Prop} {H : Heap} (h : GI D cl c A H) (gs : List Nat) : va_P D cl (gs.flatMap c) H := by
  intro k q hq
  obtain ⟨g, -, hg⟩ := List.mem_flatMap.mp (List.mem_of_getElem? hq)
  obtain ⟨i, hi⟩ := gi_at hg
  exact h.1 g i q hi
theorem GI.D {D : va_G} {cl : List vw_C} {c : Nat → va_W} {A : Nat → Prop} {H : Heap} (h : GI D cl c A H) {gs : List Nat} (hn : gs.Nodup) : va_D A (gs.flatMap c) := by
  refine gi_D.mpr ⟨List.pairwise_flatMap.mpr ⟨fun g _ => (gi_D.mp (h.2.1 g)).1, ?_⟩, fun p hp => ?_⟩
  · exact List.Pairwise.imp (fun {a b} n => h.2.2 a b n) hn
  · obtain ⟨g, -, hg⟩ := List.mem_flatMap.mp hp
    exact (gi_D.mp (h.2.1 g)).2 p hg
theorem GI.put {D : va_G} {cl : List vw_C} {c c' : Nat → va_W} {A : Nat → Prop} {H H1 : Heap} {gs : List Nat} {wc : va_W} (h : GI D cl c A H) (hn : gs.Nodup) (ho : ∀ g, g ∉ gs → c' g = c g) (hw : ∀ q, va_A wc H.size q → va_A (gs.flatMap c) H.size q) (hk : ∀ q : Nat, q < H.size → ¬ va_A wc H.size q → H1[q]? = H[q]?) (hA : ∀ q : Nat, H.size ≤ q → A q) (hP : va_P D cl (gs.flatMap c') H1) (hD : va_D (va_A (gs.flatMap c) H.size) (gs.flatMap c')) : GI D cl c' A H1 := by
  have hd := gi_D.mp hD
  have hp := List.pairwise_flatMap.mp hd.1
  have inX : ∀ g ∈ gs, ∀ p ∈ c' g, va_A (gs.flatMap c) H.size p.1 := fun g hg p hp => hd.2 p (List.mem_flatMap.mpr ⟨g, hg, hp⟩)
  have far : ∀ g, g ∉ gs → ∀ q ∈ c g, q.1 < H.size ∧ ¬ va_A (gs.flatMap c) H.size q.1 := by
    intro g hg q hq
    obtain ⟨i, hi⟩ := gi_at hq
    have hl := (h.1 g i q hi).lt
    refine ⟨hl, fun z => ?_⟩
    rcases z with ⟨k, e, hz⟩ | z
    · obtain ⟨g2, hg2, hm⟩ := List.mem_flatMap.mp (List.mem_of_getElem? hz)
      exact h.2.2 g g2 (fun e2 => hg (by rw [e2]; exact hg2)) q hq _ hm rfl
    · omega
  have AofX : ∀ q : Nat, va_A (gs.flatMap c) H.size q → A q := by
    intro q z
    rcases z with ⟨k, e, hz⟩ | z
    · obtain ⟨g2, hg2, hm⟩ := List.mem_flatMap.mp (List.mem_of_getElem? hz)
      exact (gi_D.mp (h.2.1 g2)).2 _ hm
    · exact hA q z
  refine ⟨fun g => ?_, fun g => ?_, fun g g' n p hp1 q hq1 e => ?_⟩
  · by_cases hg : g ∈ gs
    · intro k q hq
      obtain ⟨i, hi⟩ := gi_at (List.mem_flatMap.mpr ⟨g, hg, List.mem_of_getElem? hq⟩)
      exact hP i q hi
    · intro k q hq
      rw [ho g hg] at hq
      obtain ⟨f1, f2⟩ := far g hg q (List.mem_of_getElem? hq)
      exact (h.1 g k q hq).kept (hk q.1 f1 (fun z => f2 (hw _ z)))
  · by_cases hg : g ∈ gs
    · exact gi_D.mpr ⟨hp.1 g hg, fun p hp2 => AofX _ (inX g hg p hp2)⟩
    · rw [ho g hg]; exact h.2.1 g
  · by_cases hg : g ∈ gs <;> by_cases hgω : g' ∈ gs
    · exact gi_pw (R := fun a b => ∀ x ∈ c' a, ∀ y ∈ c' b, x.1 ≠ y.1) (fun a b r x hx y hy e2 => r y hy x hx e2.symm) hp.2 g hg g' hgω n p hp1 q hq1 e
    · rw [ho g' hgω] at hq1
      obtain ⟨f1, f2⟩ := far g' hgω q hq1
      exact f2 (by rw [← e]; exact inX g hg p hp1)
    · rw [ho g hg] at hp1
      obtain ⟨f1, f2⟩ := far g hg p hp1
      exact f2 (by rw [e]; exact inX g' hgω q hq1)
    · rw [ho g hg] at hp1
      rw [ho g' hgω] at hq1
      exact h.2.2 g g' n p hp1 q hq1 e
theorem GI.kept {D : va_G} {cl : List vw_C} {c : Nat → va_W} {A : Nat → Prop} {H H1 : Heap} (h : GI D cl c A H) (hk : ∀ q : Nat, q < H.size → H1[q]? = H[q]?) : GI D cl c A H1 := by
  refine ⟨fun g k q hq => ?_, h.2⟩
  have h9 := h.1 g k q hq
  exact h9.kept (hk q.1 h9.lt)
theorem vaA_sub {X wc : va_W} {n : Nat} (is : List Nat) (hC : is.map (fun i => X[i]?) = wc.map some) : ∀ q, va_A wc n q → va_A X n q := by
  intro q h
  rcases h with ⟨k, e, h⟩ | h
  · obtain ⟨i, h1, h2⟩ := va_in_of is hC h
    exact Or.inl ⟨i, e, h2⟩
  · exact Or.inr h
def up1 (c : Nat → va_W) (g : Nat) (X : va_W) : Nat → va_W := fun k => if k = g then X else c k
theorem up1_eq {c : Nat → va_W} {g : Nat} {X : va_W} : up1 c g X g = X := if_pos rfl
theorem up1_ne {c : Nat → va_W} {g k : Nat} {X : va_W} (h : k ≠ g) : up1 c g X k = c k := if_neg h
