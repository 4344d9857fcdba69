theorem exn_1 {P : Nat → Prop} {b : Prop} (h : ∃ (a0 : Nat), P a0) (k : ∀ (a0 : Nat), P a0 → b) : b := by
  obtain ⟨a0, h9⟩ := h
  exact k a0 h9
theorem exn_8 {P : Nat → Nat → Nat → Nat → Nat → Nat → Nat → Nat → Prop} {b : Prop} (h : ∃ (a0 a1 a2 a3 a4 a5 a6 a7 : Nat), P a0 a1 a2 a3 a4 a5 a6 a7) (k : ∀ (a0 a1 a2 a3 a4 a5 a6 a7 : Nat), P a0 a1 a2 a3 a4 a5 a6 a7 → b) : b := by
  obtain ⟨a0, a1, a2, a3, a4, a5, a6, a7, h9⟩ := h
  exact k a0 a1 a2 a3 a4 a5 a6 a7 h9
theorem exk_1 {P : ClassId → Prop} {b : Prop} (h : ∃ (a0 : ClassId), P a0) (k : ∀ (a0 : ClassId), P a0 → b) : b := by
  obtain ⟨a0, h9⟩ := h
  exact k a0 h9
theorem exk_8 {P : ClassId → ClassId → ClassId → ClassId → ClassId → ClassId → ClassId → ClassId → Prop} {b : Prop} (h : ∃ (a0 a1 a2 a3 a4 a5 a6 a7 : ClassId), P a0 a1 a2 a3 a4 a5 a6 a7) (k : ∀ (a0 a1 a2 a3 a4 a5 a6 a7 : ClassId), P a0 a1 a2 a3 a4 a5 a6 a7 → b) : b := by
  obtain ⟨a0, a1, a2, a3, a4, a5, a6, a7, h9⟩ := h
  exact k a0 a1 a2 a3 a4 a5 a6 a7 h9
