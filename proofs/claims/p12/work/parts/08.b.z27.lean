def zfs (f : Int → Int) (r v : Int) : Int → Int := fun j => if j = r then v else f j
def zun (to tl : Nat → Int32) : Nat → Int → (Int → Int) → (Int → Int)
  | 0, _, f => f
  | n + 1, t, f => zun to tl n (t - 1) (zfs f (zg to (t - 1)) (zg tl (t - 1)))
theorem zun_add {to tl : Nat → Int32} : ∀ {m n : Nat} {t : Int} {f : Int → Int}, zun to tl (m + n) t f = zun to tl n (t - m) (zun to tl m t f) := by
  intro m; induction m with
  | zero => intro n t f; rw [Nat.zero_add, show t - ((0 : Nat) : Int) = t from by omega]; rfl
  | succ m ih =>
    intro n t f
    rw [show m + 1 + n = (m + n) + 1 from by omega]
    show zun to tl (m + n) (t - 1) _ = _
    rw [ih, show t - 1 - (m : Int) = t - ((m + 1 : Nat) : Int) from by omega]; rfl
theorem zun_congr {to tl to' tl' : Nat → Int32} : ∀ {n : Nat} {t : Int} {f : Int → Int}, (n : Int) ≤ t → (∀ j : Int, 0 ≤ j → j < t → zg to' j = zg to j ∧ zg tl' j = zg tl j) → zun to' tl' n t f = zun to tl n t f := by
  intro n; induction n with
  | zero => intro t f _ _; rfl
  | succ n ih =>
    intro t f hn h
    obtain ⟨e1, e2⟩ := h (t - 1) (by omega) (by omega)
    show zun to' tl' n (t - 1) _ = zun to tl n (t - 1) _
    rw [e1, e2]; exact ih (by omega) (fun j j0 j1 => h j j0 (by omega))
theorem zfs_same {f : Int → Int} {r v : Int} : zfs (zfs f r v) r (f r) = f := by
  funext j; unfold zfs; by_cases e : j = r
  · rw [if_pos e, e]
  · rw [if_neg e, if_neg e]
def zSw (w : Int → Int → Int) (cs ca : Nat → Int32) : Nat → Int
  | 0 => 0
  | n + 1 => zSw w cs ca n + w (zg cs (n : Int)) (zg ca (n : Int))
theorem zSw_congr {w : Int → Int → Int} {cs ca cs' ca' : Nat → Int32} : ∀ {n : Nat}, (∀ j : Int, 0 ≤ j → j < n → zg cs' j = zg cs j ∧ zg ca' j = zg ca j) → zSw w cs' ca' n = zSw w cs ca n := by
  intro n; induction n with
  | zero => intro _; rfl
  | succ n ih =>
    intro h
    obtain ⟨e1, e2⟩ := h n (by omega) (by omega)
    show zSw w cs' ca' n + _ = zSw w cs ca n + _
    rw [ih (fun j j0 j1 => h j j0 (by omega)), e1, e2]
theorem zSw_le {w : Int → Int → Int} {cs ca : Nat → Int32} (hw : ∀ s a : Int, 0 ≤ w s a) : ∀ {k n : Nat}, zSw w cs ca n ≤ zSw w cs ca (n + k) := by
  intro k; induction k with
  | zero => intro n; exact Int.le_refl _
  | succ k ih =>
    intro n
    have a := @ih n
    have b : zSw w cs ca (n + (k + 1)) = zSw w cs ca (n + k) + w (zg cs ((n + k : Nat) : Int)) (zg ca ((n + k : Nat) : Int)) := rfl
    have c := hw (zg cs ((n + k : Nat) : Int)) (zg ca ((n + k : Nat) : Int))
    omega
def zCs (P : Int → Int → Int → (Int → Int) → Int → Int → Prop) (w : Int → Int → Int) (to tl cs ca cp ct : Nat → Int32) (t m : Int) (f : Int → Int) (S : Int) : Prop :=
  (∀ i : Int, 0 ≤ i → i < m → 0 ≤ zg ct i ∧ zg ct i ≤ t ∧ P (zg cs i) (zg ca i) (zg cp i) (zun to tl (t - zg ct i).toNat t f) i (zg ct i)) ∧ (∀ i j : Int, 0 ≤ i → i ≤ j → j < m → zg ct i ≤ zg ct j) ∧ zSw w cs ca m.toNat ≤ S
theorem zCs_mono {P Q : Int → Int → Int → (Int → Int) → Int → Int → Prop} {w : Int → Int → Int} {to tl cs ca cp ct : Nat → Int32} {t m S S' : Int} {f : Int → Int} (h : zCs P w to tl cs ca cp ct t m f S) (hP : ∀ s a p f i t, P s a p f i t → Q s a p f i t) (hS : S ≤ S') : zCs Q w to tl cs ca cp ct t m f S' :=
  ⟨fun i i0 i1 => ⟨(h.1 i i0 i1).1, (h.1 i i0 i1).2.1, hP _ _ _ _ _ _ (h.1 i i0 i1).2.2⟩, h.2.1, Int.le_trans h.2.2 hS⟩
theorem zCs_0 {P : Int → Int → Int → (Int → Int) → Int → Int → Prop} {w : Int → Int → Int} {to tl cs ca cp ct : Nat → Int32} {t S : Int} {f : Int → Int} (hS : 0 ≤ S) : zCs P w to tl cs ca cp ct t 0 f S := ⟨fun i i0 i1 => by omega, fun i j i0 i1 i2 => by omega, hS⟩
theorem zCs_cut {P : Int → Int → Int → (Int → Int) → Int → Int → Prop} {w : Int → Int → Int} {to tl cs ca cp ct : Nat → Int32} {t m m' S : Int} {f : Int → Int} (h : zCs P w to tl cs ca cp ct t m f S) (hw : ∀ s a : Int, 0 ≤ w s a) (hm : m' ≤ m) : zCs P w to tl cs ca cp ct t m' f S :=
  ⟨fun i i0 i1 => h.1 i i0 (by omega), fun i j i0 i1 i2 => h.2.1 i j i0 i1 (by omega), by
    have := zSw_le (cs := cs) (ca := ca) hw (k := m.toNat - m'.toNat) (n := m'.toNat)
    rw [show m'.toNat + (m.toNat - m'.toNat) = m.toNat from by omega] at this
    exact Int.le_trans this h.2.2⟩
theorem zCs_set {P : Int → Int → Int → (Int → Int) → Int → Int → Prop} {w : Int → Int → Int} {to tl to' tl' cs ca cp ct : Nat → Int32} {t m r v S : Int} {f : Int → Int} (h : zCs P w to tl cs ca cp ct t m f S) (h0 : 0 ≤ t) (e1 : zg to' t = r) (e2 : zg tl' t = f r) (e3 : ∀ j : Int, 0 ≤ j → j ≠ t → zg to' j = zg to j ∧ zg tl' j = zg tl j) : zCs P w to' tl' cs ca cp ct (t + 1) m (zfs f r v) S := by
  refine ⟨fun i i0 i1 => ?_, h.2⟩
  obtain ⟨a, b, c⟩ := h.1 i i0 i1
  refine ⟨a, by omega, ?_⟩
  rw [show (t + 1 - zg ct i).toNat = (t - zg ct i).toNat + 1 from by omega]
  show P _ _ _ (zun to' tl' _ (t + 1 - 1) (zfs (zfs f r v) (zg to' (t + 1 - 1)) (zg tl' (t + 1 - 1)))) i _
  rw [show t + 1 - 1 = t from by omega, e1, e2, zfs_same, zun_congr (by omega) (fun j j0 j1 => e3 j j0 (by omega))]
  exact c
theorem zCs_choose {P : Int → Int → Int → (Int → Int) → Int → Int → Prop} {w : Int → Int → Int} {to tl cs ca cp ct cs' ca' cp' ct' : Nat → Int32} {t m S : Int} {f : Int → Int} (h : zCs P w to tl cs ca cp ct t m f S) (h0 : 0 ≤ t) (hm : 0 ≤ m) (e : ∀ j : Int, 0 ≤ j → j ≠ m → zg cs' j = zg cs j ∧ zg ca' j = zg ca j ∧ zg cp' j = zg cp j ∧ zg ct' j = zg ct j) (et : zg ct' m = t) (hP : P (zg cs' m) (zg ca' m) (zg cp' m) f m t) : zCs P w to tl cs' ca' cp' ct' t (m + 1) f (S + w (zg cs' m) (zg ca' m)) := by
  refine ⟨fun i i0 i1 => ?_, fun i j i0 i1 i2 => ?_, ?_⟩
  · by_cases q : i = m
    · subst q; rw [et]
      refine ⟨h0, Int.le_refl _, ?_⟩
      rw [show (t - t).toNat = 0 from by omega]; exact hP
    · obtain ⟨a1, a2, a3, a4⟩ := e i i0 q
      rw [a1, a2, a3, a4]; exact h.1 i i0 (by omega)
  · by_cases q : j = m
    · subst q; rw [et]
      by_cases w : i = j
      · subst w; omega
      · rw [(e i i0 w).2.2.2]; exact (h.1 i i0 (by omega)).2.1
    · rw [(e j (by omega) q).2.2.2, (e i i0 (by omega)).2.2.2]; exact h.2.1 i j i0 i1 (by omega)
  · rw [show (m + 1).toNat = m.toNat + 1 from by omega]
    show zSw w cs' ca' m.toNat + w (zg cs' (m.toNat : Int)) (zg ca' (m.toNat : Int)) ≤ _
    rw [show ((m.toNat : Nat) : Int) = m from by omega, zSw_congr (cs := cs) (ca := ca) (fun j j0 j1 => ⟨(e j j0 (by omega)).1, (e j j0 (by omega)).2.1⟩)]
    have := h.2.2; omega
theorem zCs_back {P : Int → Int → Int → (Int → Int) → Int → Int → Prop} {w : Int → Int → Int} {to tl cs ca cp ct : Nat → Int32} {t m S : Int} {f : Int → Int} (h : zCs P w to tl cs ca cp ct t m f S) (hl : 1 ≤ m → zg ct (m - 1) ≤ t - 1) : zCs P w to tl cs ca cp ct (t - 1) m (zfs f (zg to (t - 1)) (zg tl (t - 1))) S := by
  refine ⟨fun i i0 i1 => ?_, h.2⟩
  obtain ⟨a, b, c⟩ := h.1 i i0 i1
  have := h.2.1 i (m - 1) i0 (by omega) (by omega)
  have := hl (by omega)
  refine ⟨a, by omega, ?_⟩
  rw [show (t - zg ct i).toNat = (t - 1 - zg ct i).toNat + 1 from by omega] at c
  exact c
theorem zCs_top {P : Int → Int → Int → (Int → Int) → Int → Int → Prop} {w : Int → Int → Int} {to tl cs ca cp ct : Nat → Int32} {t m S : Int} {f : Int → Int} (h : zCs P w to tl cs ca cp ct t m f S) (hw : ∀ s a : Int, 0 ≤ w s a) (hm : 1 ≤ m) (ht : zg ct (m - 1) = t) : P (zg cs (m - 1)) (zg ca (m - 1)) (zg cp (m - 1)) f (m - 1) t ∧ zCs P w to tl cs ca cp ct t (m - 1) f (S - w (zg cs (m - 1)) (zg ca (m - 1))) := by
  obtain ⟨a, b, c⟩ := h.1 (m - 1) (by omega) (by omega)
  rw [ht, show (t - t).toNat = 0 from by omega] at c
  have q := h.2.2
  rw [show m.toNat = (m - 1).toNat + 1 from by omega] at q
  have q2 : zSw w cs ca (m - 1).toNat + w (zg cs ((m - 1).toNat : Int)) (zg ca ((m - 1).toNat : Int)) ≤ S := q
  rw [show (((m - 1).toNat : Nat) : Int) = m - 1 from by omega] at q2
  have k := zCs_cut h hw (show m - 1 ≤ m by omega)
  exact ⟨c, k.1, k.2.1, by omega⟩
