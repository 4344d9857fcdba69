def REL0 (sT : Nat → Bool) (sC : Nat → Int32) (MT : Nat → Bool) (ML : Nat → Int32) : Prop := ∀ k : Nat, k < 4 → MT k = sT k ∧ (sT k = true → (sC k).toInt = (ML k).toInt) ∧ (sT k = false → (sC k).toInt = 0)
theorem OPN_l {hd : Nat → Nat} {OS OS2 : Int32} {GT GS : Nat} (h : OPN hd OS GT GS) (hp : OS2.toInt = -1 ∨ OS2.toInt = OS.toInt) : OPN hd OS2 GT GS := by
  rcases hp with z | z
  · exact Or.inl z
  · rcases h with h | h
    · exact Or.inl (z.trans h)
    · exact Or.inr h
theorem OPN_1 {hd : Nat → Nat} {OS OS2 : Int32} {GT GS GT2 GS2 : Nat} (h : OPN hd OS GT GS) (hp : OS2.toInt = -1 ∨ (OS2 = OS ∧ GT2 = GT ∧ GS2 = GS)) : OPN hd OS2 GT2 GS2 := by
  rcases hp with z | ⟨e1, e2, e3⟩
  · exact Or.inl z
  · subst e1; subst e2; subst e3; exact h
def hsw (hd : Nat → Nat) (k : Nat) : Nat → Nat := fun q => if q < 40 then hd q else if 50 ≤ q then hd q else if q = 46 then hd (40 + k) else if q = 40 + k then hd 46 else hd q
theorem hsw_o {hd : Nat → Nat} {k q : Nat} (h1 : q ≠ 46) (h2 : q ≠ 40 + k) : hsw hd k q = hd q := by
  unfold hsw
  by_cases a : q < 40
  · rw [if_pos a]
  · rw [if_neg a]
    by_cases b : 50 ≤ q
    · rw [if_pos b]
    · rw [if_neg b, if_neg h1, if_neg h2]
theorem hsw_k {hd : Nat → Nat} {k : Nat} (h : k < 6) : hsw hd k (40 + k) = hd 46 := by
  unfold hsw
  rw [if_neg (by omega), if_neg (by omega), if_neg (by omega), if_pos rfl]
theorem OPN_s {hd hq : Nat → Nat} {OS : Int32} {GT GS kT : Nat} (h : OPN hd OS GT GS) (hk : kT < 6) (ho : ∀ q : Nat, q ≠ 46 → q ≠ 40 + kT → hq q = hd q) (h6 : hq 46 = hd (40 + kT)) (hk2 : hq (40 + kT) = hd 46) : OPN hq OS GT GS := by
  rcases h with h | ⟨⟨k, hk3, e⟩, ⟨j, hj, e2⟩⟩
  · exact Or.inl h
  · refine Or.inr ⟨?_, ⟨j, hj, by rw [ho (50 + j) (by omega) (by omega)]; exact e2⟩⟩
    by_cases z : k = 6
    · subst z; exact ⟨kT, by omega, by rw [hk2]; exact e⟩
    · by_cases y : k = kT
      · subst y; exact ⟨6, by omega, by rw [show (40 + 6 : Nat) = 46 from rfl, h6]; exact e⟩
      · exact ⟨k, hk3, by rw [ho (40 + k) (by omega) (by omega)]; exact e⟩
theorem OPN_3 {hd : Nat → Nat} {OS OS2 : Int32} {GT GS GT2 GS2 kT kS : Nat} (h : OPN hd OS GT GS) (hp : OS2.toInt = -1 ∨ (OS2 = OS ∧ GT2 = GT ∧ GS2 = GS) ∨ (GT2 = hd (40 + kT) ∧ GS2 = hd (50 + kS))) (hT : kT < 7) (hS : kS < 4) : OPN hd OS2 GT2 GS2 := by
  rcases hp with z | ⟨e1, e2, e3⟩ | ⟨e1, e2⟩
  · exact Or.inl z
  · subst e1; subst e2; subst e3; exact h
  · exact Or.inr ⟨⟨kT, hT, e1⟩, ⟨kS, hS, e2⟩⟩
theorem bz_f {b : Bool} (h : (bz b).toInt = 0) : b = false := by
  cases b
  · rfl
  · exact absurd h (by decide)
theorem bz_t {b : Bool} (h : (bz b).toInt = 1) : b = true := by
  cases b
  · exact absurd h (by decide)
  · rfl
theorem bz_i {a b : Bool} (h : (bz a).toInt = (bz b).toInt) : a = b := by
  cases a <;> cases b <;> first | rfl | exact absurd h (by decide)
theorem ug_eq {α : Type} {f : Nat → α} {k : Nat} {x : α} : ug f k x k = x := if_pos rfl
theorem ug_ne {α : Type} {f : Nat → α} {k q : Nat} {x : α} (h : ¬ q = k) : ug f k x q = f q := if_neg h
theorem REL_put1 {sT : Nat → Bool} {sC : Nat → Int32} {MT MT2 : Nat → Bool} {ML ML2 : Nat → Int32} {k : Nat} {t2 : Bool} {c2 : Int32} (h : REL0 sT sC MT ML) (ho : ∀ q : Nat, q < 4 → ¬ q = k → MT2 q = MT q ∧ (ML2 q).toInt = (ML q).toInt) (hs : MT2 k = t2 ∧ (t2 = true → c2.toInt = (ML2 k).toInt) ∧ (t2 = false → c2.toInt = 0)) : REL0 (ug sT k t2) (ug sC k c2) MT2 ML2 := by
  intro q hq
  by_cases z : q = k
  · subst z
    rw [ug_eq, ug_eq]; exact hs
  · rw [ug_ne z, ug_ne z]
    obtain ⟨a, b⟩ := ho q hq z
    obtain ⟨h1, h2, h3⟩ := h q hq
    exact ⟨a.trans h1, fun y => by rw [b]; exact h2 y, h3⟩
theorem REL_keep {sT : Nat → Bool} {sC : Nat → Int32} {MT : Nat → Bool} {ML : Nat → Int32} {k : Nat} {t2 : Bool} {c2 : Int32} (h : REL0 sT sC MT ML) (hk : k < 4) (ht : (bz t2).toInt = (bz (sT k)).toInt) (hc : c2.toInt = (sC k).toInt) : REL0 (ug sT k t2) (ug sC k c2) MT ML := by
  have e := bz_i ht
  subst e
  obtain ⟨h1, h2, h3⟩ := h k hk
  exact REL_put1 h (fun q _ _ => ⟨rfl, rfl⟩) ⟨h1, fun y => by rw [hc]; exact h2 y, fun y => by rw [hc]; exact h3 y⟩
theorem REL_drop {sT : Nat → Bool} {sC : Nat → Int32} {MT MT2 : Nat → Bool} {ML : Nat → Int32} {k : Nat} {T t2 : Bool} {Cn c2 p1 r r2 : Int32} (h : REL0 sT sC MT ML) (hk : k < 4) (hv : 0 ≤ p1.toInt → p1.toInt < 4 → p1.toNatClampNeg = k) (eT : T = sT k) (eC : Cn = sC k)
    (hx : (¬ (0 ≤ p1.toInt ∧ p1.toInt ≤ 3) ∧ r.toInt = -2 ∧ (c2.toInt = Cn.toInt ∧ (bz t2).toInt = (bz T).toInt)) ∨ ((0 ≤ p1.toInt ∧ p1.toInt ≤ 3) ∧ (bz T).toInt = 0 ∧ r.toInt = -3 ∧ (c2.toInt = Cn.toInt ∧ (bz t2).toInt = (bz T).toInt)) ∨ ((0 ≤ p1.toInt ∧ p1.toInt ≤ 3) ∧ (bz T).toInt = 1 ∧ r.toInt = Cn.toInt ∧ c2.toInt = 0 ∧ (bz t2).toInt = 0))
    (hm : zDr MT ML p1.toInt r2.toInt MT2) : REL0 (ug sT k t2) (ug sC k c2) MT2 ML ∧ r = r2 := by
  subst eT; subst eC
  obtain ⟨h1, h2, h3⟩ := h k hk
  have hin : 0 ≤ p1.toInt ∧ p1.toInt ≤ 3 → p1.toInt.toNat = k := fun z => hv z.1 (by omega)
  unfold zDr at hm
  rcases hx with ⟨a1, a2, a3, a4⟩ | ⟨a1, a2, a3, a4, a5⟩ | ⟨a1, a2, a3, a4, a5⟩
  · rcases hm with ⟨b1, b2, b3⟩ | ⟨b1, b2, b3, b4⟩ | ⟨b1, b2, b3, b4, b5⟩
    · subst b3
      exact ⟨REL_keep h hk a4 a3, Int32.toInt_inj.mp (by omega)⟩
    · exact absurd b1 a1
    · exact absurd b1 a1
  · rw [hin a1] at hm
    rcases hm with ⟨b1, b2, b3⟩ | ⟨b1, b2, b3, b4⟩ | ⟨b1, b2, b3, b4, b5⟩
    · exfalso; omega
    · subst b4
      exact ⟨REL_keep h hk a5 a4, Int32.toInt_inj.mp (by omega)⟩
    · rw [h1, bz_f a2] at b2; cases b2
  · rw [hin a1] at hm
    rcases hm with ⟨b1, b2, b3⟩ | ⟨b1, b2, b3, b4⟩ | ⟨b1, b2, b3, b4, b5⟩
    · exfalso; omega
    · rw [h1, bz_t a2] at b2; cases b2
    · have e3 := hin a1
      have e4 : zg ML p1.toInt = (ML k).toInt := by unfold zg; rw [e3]
      refine ⟨REL_put1 h (fun q hq z => ⟨?_, rfl⟩) ⟨b4.trans (bz_f a5).symm, fun y => ?_, fun _ => a4⟩, Int32.toInt_inj.mp ?_⟩
      · have b6 := b5 (q : Int) (by omega) (by omega)
        exact b6
      · rw [bz_f a5] at y; cases y
      · have b7 := h2 (bz_t a2)
        omega
theorem REL_put {sT : Nat → Bool} {sC : Nat → Int32} {MT MT2 : Nat → Bool} {ML ML2 : Nat → Int32} {k : Nat} {T t2 : Bool} {Cn c2 p1 p2 r r2 : Int32} (h : REL0 sT sC MT ML) (hk : k < 4) (hv : 0 ≤ p1.toInt → p1.toInt < 4 → p1.toNatClampNeg = k) (eT : T = sT k) (eC : Cn = sC k)
    (hx : (¬ (0 ≤ p1.toInt ∧ p1.toInt ≤ 3) ∧ r.toInt = -2 ∧ (c2.toInt = Cn.toInt ∧ (bz t2).toInt = (bz T).toInt)) ∨ ((0 ≤ p1.toInt ∧ p1.toInt ≤ 3) ∧ ¬ (0 ≤ p2.toInt ∧ p2.toInt ≤ 4) ∧ r.toInt = -4 ∧ (c2.toInt = Cn.toInt ∧ (bz t2).toInt = (bz T).toInt)) ∨ ((0 ≤ p1.toInt ∧ p1.toInt ≤ 3) ∧ (0 ≤ p2.toInt ∧ p2.toInt ≤ 4) ∧ 100 < Cn.toInt + p2.toInt ∧ r.toInt = -9 ∧ (c2.toInt = Cn.toInt ∧ (bz t2).toInt = (bz T).toInt)) ∨ ((0 ≤ p1.toInt ∧ p1.toInt ≤ 3) ∧ (0 ≤ p2.toInt ∧ p2.toInt ≤ 4) ∧ Cn.toInt + p2.toInt ≤ 100 ∧ r.toInt = Cn.toInt + p2.toInt ∧ c2.toInt = Cn.toInt + p2.toInt ∧ (bz t2).toInt = 1))
    (hm : zPt MT ML p1.toInt p2.toInt MT2 ML2) (hr : (¬ (0 ≤ p1.toInt ∧ p1.toInt ≤ 3) ∧ r2.toInt = -2) ∨ ((0 ≤ p1.toInt ∧ p1.toInt ≤ 3) ∧ ¬ (0 ≤ p2.toInt ∧ p2.toInt ≤ 4) ∧ r2.toInt = -4) ∨ ((0 ≤ p1.toInt ∧ p1.toInt ≤ 3) ∧ (0 ≤ p2.toInt ∧ p2.toInt ≤ 4) ∧ 100 < zln MT ML p1.toInt + p2.toInt ∧ r2.toInt = -9) ∨ ((0 ≤ p1.toInt ∧ p1.toInt ≤ 3) ∧ (0 ≤ p2.toInt ∧ p2.toInt ≤ 4) ∧ zln MT ML p1.toInt + p2.toInt ≤ 100 ∧ r2.toInt = zln MT ML p1.toInt + p2.toInt)) : REL0 (ug sT k t2) (ug sC k c2) MT2 ML2 ∧ r = r2 := by
  subst eT; subst eC
  obtain ⟨h1, h2, h3⟩ := h k hk
  have hin : 0 ≤ p1.toInt ∧ p1.toInt ≤ 3 → p1.toInt.toNat = k := fun z => hv z.1 (by omega)
  have hln : 0 ≤ p1.toInt ∧ p1.toInt ≤ 3 → zln MT ML p1.toInt = (sC k).toInt := by
    intro z
    unfold zln zg
    rw [hin z, h1]
    cases e : sT k
    · rw [if_neg (by decide)]; exact (h3 e).symm
    · rw [if_pos rfl]; exact (h2 e).symm
  have her : r = r2 := by
    apply Int32.toInt_inj.mp
    by_cases a : 0 ≤ p1.toInt ∧ p1.toInt ≤ 3
    · have e := hln a
      omega
    · omega
  refine ⟨?_, her⟩
  rcases hx with ⟨a1, a2, a3, a4⟩ | ⟨a1, a2, a3, a4, a5⟩ | ⟨a1, a2, a3, a4, a5, a6⟩ | ⟨a1, a2, a3, a4, a5, a6⟩
  · rcases hm with ⟨b1, b2⟩ | ⟨b1, b2, b3⟩
    · exact absurd ⟨b1.1, b1.2.1⟩ a1
    · subst b2; subst b3; exact REL_keep h hk a4 a3
  · rcases hm with ⟨b1, b2⟩ | ⟨b1, b2, b3⟩
    · exact absurd ⟨b1.2.2.1, b1.2.2.2.1⟩ a2
    · subst b2; subst b3; exact REL_keep h hk a5 a4
  · have e := hln a1
    rcases hm with ⟨b1, b2⟩ | ⟨b1, b2, b3⟩
    · exfalso; omega
    · subst b2; subst b3; exact REL_keep h hk a6 a5
  · have e := hln a1
    have e3 := hin a1
    rcases hm with ⟨b1, b2, b3, b4⟩ | ⟨b1, b2, b3⟩
    · have e5 : zg ML2 p1.toInt = (ML2 k).toInt := by unfold zg; rw [e3]
      rw [e3] at b2
      refine REL_put1 h (fun q hq z => ?_) ⟨b2.trans (bz_t a6).symm, fun _ => by omega, fun y => ?_⟩
      · obtain ⟨c1, c3⟩ := b4 (q : Int) (by omega) (by omega)
        exact ⟨c1, c3⟩
      · rw [bz_t a6] at y; cases y
    · exact absurd ⟨a1.1, a1.2, a2.1, a2.2, by omega⟩ b1
theorem REL_clear {sT : Nat → Bool} {sC : Nat → Int32} {MT2 : Nat → Bool} {ML : Nat → Int32} {t0 t1 t2 t3 : Bool} {c0 c1 c2 c3 : Int32} (h0 : (bz t0).toInt = 0) (h1 : (bz t1).toInt = 0) (h2 : (bz t2).toInt = 0) (h3 : (bz t3).toInt = 0) (g0 : c0.toInt = 0) (g1 : c1.toInt = 0) (g2 : c2.toInt = 0) (g3 : c3.toInt = 0) (hm : ∀ j : Int, 0 ≤ j → j < 4 → MT2 j.toNat = false) : REL0 (ug (ug (ug (ug sT 0 t0) 1 t1) 2 t2) 3 t3) (ug (ug (ug (ug sC 0 c0) 1 c1) 2 c2) 3 c3) MT2 ML := by
  intro k hk
  rcases (show k = 0 ∨ k = 1 ∨ k = 2 ∨ k = 3 by omega) with rfl | rfl | rfl | rfl
  · exact ⟨(hm 0 (by omega) (by omega)).trans (bz_f h0).symm, fun z => absurd (show t0 = true from z) (by rw [bz_f h0]; decide), fun _ => g0⟩
  · exact ⟨(hm 1 (by omega) (by omega)).trans (bz_f h1).symm, fun z => absurd (show t1 = true from z) (by rw [bz_f h1]; decide), fun _ => g1⟩
  · exact ⟨(hm 2 (by omega) (by omega)).trans (bz_f h2).symm, fun z => absurd (show t2 = true from z) (by rw [bz_f h2]; decide), fun _ => g2⟩
  · exact ⟨(hm 3 (by omega) (by omega)).trans (bz_f h3).symm, fun z => absurd (show t3 = true from z) (by rw [bz_f h3]; decide), fun _ => g3⟩
theorem GI.swap {D : va_G} {cl : List vw_C} {c : Nat → va_W} {A : Nat → Prop} {H : Heap} (h : GI D cl c A H) (a b : Nat) : GI D cl (fun q => if q = a then c b else if q = b then c a else c q) A H := by
  have key : ∀ q : Nat, ∃ g : Nat, (if q = a then c b else if q = b then c a else c q) = c g ∧ g = (if q = a then b else if q = b then a else q) := by
    intro q
    by_cases z : q = a
    · exact ⟨b, by rw [if_pos z], by rw [if_pos z]⟩
    · by_cases y : q = b
      · exact ⟨a, by rw [if_neg z, if_pos y], by rw [if_neg z, if_pos y]⟩
      · exact ⟨q, by rw [if_neg z, if_neg y], by rw [if_neg z, if_neg y]⟩
  refine ⟨fun g => ?_, fun g => ?_, fun g g' n p hp q hq e => ?_⟩
  · obtain ⟨x, hx, -⟩ := key g
    show va_P D cl (if g = a then c b else if g = b then c a else c g) H
    rw [hx]; exact h.1 x
  · obtain ⟨x, hx, -⟩ := key g
    show va_D A (if g = a then c b else if g = b then c a else c g)
    rw [hx]; exact h.2.1 x
  · obtain ⟨x, hx, ex⟩ := key g
    obtain ⟨y, hy, ey⟩ := key g'
    have hp : p ∈ (if g = a then c b else if g = b then c a else c g) := hp
    have hq : q ∈ (if g' = a then c b else if g' = b then c a else c g') := hq
    rw [hx] at hp
    rw [hy] at hq
    refine h.2.2 x y (fun z => n ?_) p hp q hq e
    rw [ex, ey] at z
    by_cases z1 : g = a
    · by_cases z2 : g' = a
      · exact z1.trans z2.symm
      · rw [if_pos z1, if_neg z2] at z
        by_cases z3 : g' = b
        · rw [if_pos z3] at z; omega
        · rw [if_neg z3] at z; omega
    · by_cases z2 : g' = a
      · rw [if_neg z1, if_pos z2] at z
        by_cases z3 : g = b
        · rw [if_pos z3] at z; omega
        · rw [if_neg z3] at z; omega
      · rw [if_neg z1, if_neg z2] at z
        by_cases z3 : g = b <;> by_cases z4 : g' = b
        · exact z3.trans z4.symm
        · rw [if_pos z3, if_neg z4] at z; omega
        · rw [if_neg z3, if_pos z4] at z; omega
        · rw [if_neg z3, if_neg z4] at z; exact z
