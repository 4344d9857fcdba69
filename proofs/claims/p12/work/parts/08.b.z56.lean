theorem zCS_l {so va le mo ho pa en fp pb pe ac aA aB la la' ta tA tB : Nat → Int32} {Z : Int → Int} {bs q n c φ N lb m m' gm gm' : Int} {i v : Int32} (h : zCS so va en ac aA aB la ta tA tB Z bs n φ N lb m gm) (hSl : zSl so va le mo ho pa en fp pb pe bs q n c) (hZ : zZ so le mo en bs n φ Z) (el : la' = upd la i.toNatClampNeg v) (hm : 1 ≤ m) (h101 : zg ta (m - 1) = 101) (hi : i.toInt = zg tA (m - 1)) (hv : v.toInt = N) (hm' : m' = m - 1) (hg : gm' = gm - 1) : zCS so va en ac aA aB la' ta tA tB Z bs n φ N lb m' gm' := by
  have hN := h.2
  obtain ⟨C, Λ, σ, σ0, τ, B2, lb0, hL, g1, g2, g3, g4, g5, b1, b2, b3, b4⟩ := zCS_t h hSl hZ hm
  subst hm'; subst hg
  have c1 : zc1 Z (zg ta (m - 1)) (zg tA (m - 1)) = 1 := zc1_o (by omega)
  have c2 : zc2 Z (zg ta (m - 1)) (zg tA (m - 1)) = 0 := by rw [h101]; rfl
  have m1 : 1 ≤ m - 1 := by
    by_cases e : m = 1
    · have := g4 e; omega
    · omega
  obtain ⟨a0, es, et⟩ : (0 ≤ zg tA (m - 1) ∧ zg tA (m - 1) < lb) ∧ σ0 = Λ (zg tA (m - 1)) ∧ τ = σ0 := by
    rcases g3 with ⟨z, _⟩ | ⟨_, z⟩ | ⟨⟨⟨z, _⟩, _⟩, _⟩
    · omega
    · exact z
    · omega
  subst et
  obtain ⟨l1, l2, l3⟩ := zLd_le hL g1
  refine ⟨Or.inr ⟨C, Λ, τ, B2, ⟨m1, lb0, ⟨l1, fun l l0 lb1 => ?_, l3⟩, g5, by omega, by omega⟩, b3⟩, by omega, hN.2⟩
  by_cases e : l = zg tA (m - 1)
  · refine Or.inr (Or.inr ?_)
    have le : zg la' l = N := by rw [el, e, ← hi, zg_eq]; exact hv
    rw [le]
    refine ⟨hN.2, Int.le_refl _, fun z => by omega, ?_⟩
    have ez : zcn C N τ N = τ := if_pos rfl
    rw [ez, e, ← es]; exact zge_rfl
  · rcases l2 l l0 lb1 with w | ⟨j, j0, j1, j2, j3⟩ | ⟨q1, q2, q3, q4⟩
    · exact Or.inl w
    · refine Or.inr (Or.inl ⟨j, j0, ?_, j2, j3⟩)
      by_cases w : j = m - 1
      · rw [w] at j3; exact absurd j3.symm e
      · omega
    · have le : zg la' l = zg la l := by rw [el]; exact zg_ne (by omega) l0 (by omega)
      rw [le]; exact Or.inr (Or.inr ⟨q1, q2, fun z => by omega, q4⟩)
theorem zCS_o {so va le mo ho pa en fp pb pe ac aA aB ac' aA' aB' la ta tA tB : Nat → Int32} {Z : Int → Int} {bs q n c φ N N' lb m m' gm gm' : Int} {j o a b : Int32} (h : zCS so va en ac aA aB la ta tA tB Z bs n φ N lb m gm) (hSl : zSl so va le mo ho pa en fp pb pe bs q n c) (hZ : zZ so le mo en bs n φ Z) (e1 : ac' = upd ac j.toNatClampNeg o) (e2 : aA' = upd aA j.toNatClampNeg a) (e3 : aB' = upd aB j.toNatClampNeg b) (hφ : φ = 0 ∨ φ = 1) (hm : 1 ≤ m) (h100 : zg ta (m - 1) ≠ 100) (h101 : zg ta (m - 1) ≠ 101) (hj : j.toInt = N) (ho' : o.toInt = zg ta (m - 1)) (ha : a.toInt = zg tA (m - 1)) (hb : b.toInt = zg tB (m - 1)) (hN' : N' = N + 1) (hm' : m' = m - 1) (hg : gm' = gm - 1) : zCS so va en ac' aA' aB' la ta tA tB Z bs n φ N' lb m' gm' := by
  have hN := h.2
  obtain ⟨C, Λ, σ, σ0, τ, B2, lb0, hL, g1, g2, g3, g4, g5, b1, b2, b3, b4⟩ := zCS_t h hSl hZ hm
  subst hm'; subst hg; subst hN'
  have c1 : zc1 Z (zg ta (m - 1)) (zg tA (m - 1)) = 1 := zc1_o h100
  obtain ⟨op, o19⟩ : zOp so va bs n φ lb Λ (zg ta (m - 1)) (zg tA (m - 1)) (zg tB (m - 1)) σ0 τ ∧ (zg ta (m - 1) = 19 → σ0.1 = []) := by
    rcases g3 with ⟨z, _⟩ | ⟨z, _⟩ | z
    · exact absurd z h100
    · exact absurd z h101
    · exact z
  have c2 : zc2 Z (zg ta (m - 1)) (zg tA (m - 1)) = zh 1 o.toInt := by unfold zc2; rw [if_neg h100, if_neg h101, ho']
  obtain ⟨l1, l2, l3, l4⟩ := zLd_le hL g1
  have j0 : 0 ≤ j.toInt := by omega
  have wt : zWt ac' (N + 1) = zWt ac N + zh 1 o.toInt := by
    unfold zWt; rw [zsm_add hN.2]
    have x1 : zg ac' N = o.toInt := by rw [e1, ← hj]; exact zg_eq
    rw [x1]; congr 1
    exact zsm_congr (fun p p0 p1 => by rw [e1, zg_ne j0 p0 (by omega)])
  have C0 : ∀ p : Int, p < N + 1 → zcn (fun p => if p = N then σ0 else C p) (N + 1) τ p = zcn C N σ0 p := fun p hp => by
    unfold zcn; rw [if_neg (by omega)]
  have CN : ∀ p : Int, (fun p => if p = N then σ0 else C p) p = zcn C N σ0 p := fun p => rfl
  have A : ∀ p : Int, 0 ≤ p → p < N + 1 → zOp so va bs n φ lb Λ (zg ac' p) (zg aA' p) (zg aB' p) ((fun p => if p = N then σ0 else C p) p) (zcn (fun p => if p = N then σ0 else C p) (N + 1) τ (p + 1)) ∧ zRg ((fun p => if p = N then σ0 else C p) p) ∧ (zg ac' p = 19 → ((fun p => if p = N then σ0 else C p) p).1 = []) := fun p p0 p1 => by
    by_cases e : p = N
    · have y1 : zg ac' p = zg ta (m - 1) := by rw [e1, e, ← hj, zg_eq]; exact ho'
      have y2 : zg aA' p = zg tA (m - 1) := by rw [e2, e, ← hj, zg_eq]; exact ha
      have y3 : zg aB' p = zg tB (m - 1) := by rw [e3, e, ← hj, zg_eq]; exact hb
      have y4 : (fun p => if p = N then σ0 else C p) p = σ0 := if_pos e
      have y5 : zcn (fun p => if p = N then σ0 else C p) (N + 1) τ (p + 1) = τ := if_pos (by omega)
      rw [y1, y2, y3, y4, y5]; exact ⟨op, g2, o19⟩
    · have y1 : zg ac' p = zg ac p := by rw [e1]; exact zg_ne j0 p0 (by omega)
      have y2 : zg aA' p = zg aA p := by rw [e2]; exact zg_ne j0 p0 (by omega)
      have y3 : zg aB' p = zg aB p := by rw [e3]; exact zg_ne j0 p0 (by omega)
      have y4 : (fun p => if p = N then σ0 else C p) p = C p := if_neg e
      rw [y1, y2, y3, y4, C0 (p + 1) (by omega)]; exact l1 p p0 (by omega)
  have Bl : ∀ l : Int, 0 ≤ l → l < lb → (∃ i : Int, 0 ≤ i ∧ i < m - 1 ∧ zg ta i = 101 ∧ zg tA i = l) ∨ (0 ≤ zg la l ∧ zg la l ≤ N ∧ zge φ (Λ l) (zcn C N σ0 (zg la l))) := fun l l0 lb1 => by
    rcases l2 l l0 lb1 with w | ⟨i, i0, i1, i2, i3⟩ | ⟨q1, q2, q3, q4⟩
    · omega
    · refine Or.inl ⟨i, i0, ?_, i2, i3⟩
      by_cases w : i = m - 1
      · rw [w] at i2; exact absurd i2 h101
      · omega
    · exact Or.inr ⟨q1, q2, q4⟩
  refine ⟨?_, by omega, by omega⟩
  by_cases m0 : m - 1 = 0
  · refine Or.inl ⟨m0, (fun p => if p = N then σ0 else C p), ⟨⟨by omega, by omega, hSl.2.1, hφ⟩, lb, by omega, fun l l0 lb1 => ?_, fun p p0 p1 => ?_⟩, ⟨⟨?_, fun e => ?_⟩, fun p p0 p1 p2 => (A p p0 p1).2.2 p2⟩, fun e => ?_⟩
    · rcases Bl l l0 lb1 with ⟨i, i0, i1, _⟩ | ⟨q1, q2, _⟩
      · omega
      · exact ⟨q1, by omega⟩
    · obtain ⟨x1, x2, _⟩ := A p p0 p1
      have o9 := g4 (by omega)
      have x3 := zOp_L (Λ' := fun l => (fun p => if p = N then σ0 else C p) (zg la l)) x1 (fun l l0 lb1 => by
        rcases Bl l l0 lb1 with ⟨i, i0, i1, _⟩ | ⟨_, _, q3⟩
        · omega
        · exact q3)
      by_cases e : p = N
      · have y1 : zg ac' p = 19 := by rw [e1, e, ← hj, zg_eq]; omega
        refine ⟨⟨x3.1, fun z => absurd y1 z.2.2.2.1⟩, x2, fun z => absurd y1 z⟩
      · refine ⟨?_, x2, fun _ => by omega⟩
        have y5 : zcn (fun p => if p = N then σ0 else C p) (N + 1) τ (p + 1) = (fun p => if p = N then σ0 else C p) (p + 1) := if_neg (by omega)
        rw [y5] at x3; exact x3
    · exact l3
    · exact l4 e
    · have := b3 e; have : 0 ≤ zsu (zc2 Z) ta tA (m - 1) := by
        unfold zsu; rw [m0]; exact Int.le_refl _
      rw [wt]; omega
  · refine Or.inr ⟨(fun p => if p = N then σ0 else C p), Λ, τ, B2 - zh 1 o.toInt, ⟨by omega, lb0, ⟨A, fun l l0 lb1 => ?_, ?_, fun e => ?_⟩, g5, by omega, by omega⟩, fun e => by have := b3 e; rw [wt]; omega⟩
    · rcases Bl l l0 lb1 with w | ⟨q1, q2, q3⟩
      · exact Or.inr (Or.inl w)
      · refine Or.inr (Or.inr ⟨q1, by omega, fun z => by omega, ?_⟩)
        rw [C0 _ (by omega)]; exact q3
    · rw [C0 0 (by omega)]; exact l3
    · rw [C0 0 (by omega)]; exact l4 e
