def zk (φ st : Int) : Int := if φ = 0 then st else 0
def zh (φ o : Int) : Int := if φ = 0 then 0 else if o = 6 ∨ o = 7 then 2 else 1
theorem zk_0 {st : Int} : zk 0 st = st := if_pos rfl
theorem zk_1 {st : Int} : zk 1 st = 0 := if_neg (by decide)
theorem zh_0 {o : Int} : zh 0 o = 0 := if_pos rfl
theorem zh_b {φ o : Int} : 0 ≤ zh φ o ∧ zh φ o ≤ 2 ∧ (φ = 1 → 1 ≤ zh φ o) := by
  unfold zh; split
  · omega
  · split <;> omega
theorem zU_0 {τ : zT} : zU 0 τ = τ.2.1 := if_pos rfl
theorem zU_1 {τ : zT} : zU 1 τ = 0 := if_neg (by decide)
theorem zR_0 {τ : zT} : zR 0 τ = τ.2.2.1 := if_pos rfl
theorem zR_1 {τ : zT} : zR 1 τ = 0 := if_neg (by decide)
def zMa (φ : Int) (ac aA : Nat → Int32) (C : Int → zT) (N fr lg b1 b2 g : Int) (rg to tl cs ca cp ct : Nat → Int32) (t m n s st Ψ r : Int) : Prop :=
  ∃ S : Int, S + (if r = 0 then 0 else zw φ (C n)) ≤ Ψ + g * zk φ st ∧ zCs (zP φ ac aA C N fr lg (52 * zk φ st + b1) (33 * zk φ st + b2)) (zOm φ C) to tl cs ca cp ct t m (zG rg) S ∧ (r ≠ 0 → zIn φ C N fr lg (52 * zk φ st + b1) (33 * zk φ st + b2) (zG rg) n s m t)
def zGg (φ : Int) (C : Int → zT) (N g : Int) : Prop := 0 ≤ g ∧ ∀ p : Int, 0 ≤ p → p < N → 3 * zw φ (C p) + 3 ≤ g
theorem zk_le {φ st st' : Int} (h : st ≤ st') (h0 : 0 ≤ st) : zk φ st ≤ zk φ st' ∧ 0 ≤ zk φ st := by unfold zk; split <;> omega
theorem zPr_at {so va ac aA aB la : Nat → Int32} {bs n9 φ N p : Int} {C : Int → zT} (h : zPr so va ac aA aB la bs n9 φ N C) (p0 : 0 ≤ p) (p1 : p < N) : zSd so va bs n9 φ 3000 (fun l => C (zg la l)) (zg ac p) (zg aA p) (zg aB p) (C p) ∧ (zFa (zg ac p) → zn φ (zGn (zg ac p) (zg aA p) (C p).1) (C (p + 1)) ((C p).2.1 + zdu (zg ac p)) ((C p).2.2.1 + zdr (zg ac p)) (zdx (zg ac p) (C p).2.2.2)) ∧ zRg (C p) ∧ (zg ac p ≠ 19 → p + 1 < N) ∧ (φ = 0 ∨ φ = 1) := by
  obtain ⟨⟨_, _, _, hφ⟩, lb, l3, l4, h⟩ := h
  obtain ⟨⟨a, b⟩, c, d⟩ := h p p0 p1
  refine ⟨?_, b, c, d, hφ⟩
  obtain ⟨s0, s1, s2, s3, s4, s5, s6, s7, s8, s9, s10, s11, s12, s13, s14, s15⟩ := a
  refine ⟨s0, s1, s2, s3, fun e => ?_, s5, s6, s7, s8, s9, fun e => ?_, fun e => ?_, s12, s13, fun e => ?_, s15⟩
  · obtain ⟨q1, q2, q3⟩ := s4 e; exact ⟨q1, by omega, q3⟩
  · obtain ⟨q1, q2, q3⟩ := s10 e; exact ⟨q1, by omega, q3⟩
  · obtain ⟨q1, q2, q3⟩ := s11 e; exact ⟨q1, by omega, q3⟩
  · obtain ⟨q1, q2, q3⟩ := s14 e
    refine ⟨q1, q2, ?_⟩
    rcases q3 with q3 | ⟨q3, q4, q5⟩
    · exact Or.inl q3
    · exact Or.inr ⟨q3, by omega, q5⟩
theorem zPr_la {so va ac aA aB la : Nat → Int32} {bs n9 φ N p : Int} {C : Int → zT} (h : zPr so va ac aA aB la bs n9 φ N C) (p0 : 0 ≤ p) (p1 : p < N) : (3 ≤ zg ac p → zg ac p ≤ 5 → (0 ≤ zg aA p ∧ zg aA p < 3000) ∧ 0 ≤ zg la (zg aA p) ∧ zg la (zg aA p) < N) ∧ (zg ac p = 9 ∨ zg ac p = 10 → (0 ≤ zg aB p ∧ zg aB p < 3000) ∧ 0 ≤ zg la (zg aB p) ∧ zg la (zg aB p) < N) ∧ (zg ac p = 13 ∨ zg ac p = 15 ∨ zg ac p = 17 → zg aB p = -1 ∨ ((0 ≤ zg aB p ∧ zg aB p < 3000) ∧ 0 ≤ zg la (zg aB p) ∧ zg la (zg aB p) < N)) := by
  obtain ⟨⟨_, _, _, hφ⟩, lb, l3, l4, h⟩ := h
  obtain ⟨⟨⟨s0, s1, s2, s3, s4, s5, s6, s7, s8, s9, s10, s11, s12, s13, s14, s15⟩, b⟩, c, d⟩ := h p p0 p1
  refine ⟨fun e e2 => ?_, fun e => ?_, fun e => ?_⟩
  · obtain ⟨q1, q2, q3⟩ := s4 (by omega); exact ⟨⟨q1, by omega⟩, l4 _ q1 q2⟩
  · rcases e with e | e
    · obtain ⟨q1, q2, q3⟩ := s10 e; exact ⟨⟨q1, by omega⟩, l4 _ q1 q2⟩
    · obtain ⟨q1, q2, q3⟩ := s11 e; exact ⟨⟨q1, by omega⟩, l4 _ q1 q2⟩
  · obtain ⟨q1, q2, q3⟩ := s14 e
    rcases q3 with q3 | ⟨q3, q4, q5⟩
    · exact Or.inl q3
    · exact Or.inr ⟨⟨q3, by omega⟩, l4 _ q3 q4⟩
theorem zMa_b {φ N fr lg b1 b2 g t m n s st Ψ : Int} {ac aA rg to tl cs ca cp ct so va aB la : Nat → Int32} {bs n9 : Int} {C : Int → zT} (h : zMa φ ac aA C N fr lg b1 b2 g rg to tl cs ca cp ct t m n s st Ψ 1) (hP : zPr so va ac aA aB la bs n9 φ N C) (hf : 0 ≤ fr) : (0 ≤ n ∧ n < N) ∧ (0 ≤ s ∧ s ≤ lg) ∧ (0 ≤ m ∧ m ≤ 52 * zk φ st + b1) ∧ t ≤ 33 * zk φ st + b2 ∧ N ≤ 2999 ∧ 1 ≤ Ψ + g * zk φ st := by
  obtain ⟨S, hS, hC, hI⟩ := h
  obtain ⟨hn, hw, hc, h1, h2⟩ := hI (by decide)
  obtain ⟨_, _, ⟨r1, r2, r3, r4, r5⟩, _⟩ := zPr_at hP hn.1 hn.2
  have := zWf_le hf hw
  have a := @zNz_b (zG rg)
  have u : 0 ≤ zU φ (C n) := by unfold zU; split <;> omega
  have r : 0 ≤ zR φ (C n) := by unfold zR; split <;> omega
  have w := @zw_1 φ (C n)
  rw [if_neg (by decide)] at hS
  have q : 0 ≤ S := by
    have := hC.2.2
    have := zSw_le (cs := cs) (ca := ca) (@zOm_0 φ C) (k := m.toNat) (n := 0)
    rw [Nat.zero_add] at this
    have e : zSw (zOm φ C) cs ca 0 = 0 := rfl
    omega
  refine ⟨hn, ⟨by omega, by omega⟩, ⟨by omega, by omega⟩, by omega, hP.1.2.1, by omega⟩
theorem zMa_go {φ N fr lg b1 b2 b1' b2' g t' m' n n' s' st st' Ψ Ψ' S S' : Int} {ac aA rg' to' tl' cs' ca' cp' ct' : Nat → Int32} {C : Int → zT} (hS : S + zw φ (C n) ≤ Ψ + g * zk φ st) (hC : zCs (zP φ ac aA C N fr lg (52 * zk φ st' + b1') (33 * zk φ st' + b2')) (zOm φ C) to' tl' cs' ca' cp' ct' t' m' (zG rg') S') (hI : zIn φ C N fr lg (52 * zk φ st' + b1') (33 * zk φ st' + b2') (zG rg') n' s' m' t') (hw : S' + zw φ (C n') + 1 + g * zk φ st ≤ S + zw φ (C n) + 2 * φ + g * zk φ st') (hΨ : Ψ' = Ψ - 1 + 2 * φ) : zMa φ ac aA C N fr lg b1' b2' g rg' to' tl' cs' ca' cp' ct' t' m' n' s' st' Ψ' 1 := by
  refine ⟨S', ?_, hC, fun _ => hI⟩
  rw [if_neg (by decide)]; omega
theorem zMa_no {φ N fr lg b1 b2 b1' b2' g t m m' n n' s s' st st' Ψ Ψ' : Int} {ac aA rg to tl cs ca cp ct : Nat → Int32} {C : Int → zT} (h : zMa φ ac aA C N fr lg b1 b2 g rg to tl cs ca cp ct t m n s st Ψ 1) (hm : m' ≤ m) (hst : st ≤ st') (h0 : 0 ≤ st) (hg : 0 ≤ g) (e1 : b1 ≤ b1') (e2 : b2 ≤ b2') (hΨ : Ψ - 1 ≤ Ψ') : zMa φ ac aA C N fr lg b1' b2' g rg to tl cs ca cp ct t m' n' s' st' Ψ' 0 := by
  obtain ⟨S, hS, hC, hI⟩ := h
  rw [if_neg (by decide)] at hS
  have w := @zw_1 φ (C n)
  have k := zk_le (φ := φ) hst h0
  have q : g * zk φ st ≤ g * zk φ st' := Int.mul_le_mul_of_nonneg_left k.1 hg
  refine ⟨S, ?_, zCs_mono (zCs_cut hC zOm_0 hm) (zP_m (by omega) (by omega)) (Int.le_refl _), fun z => absurd rfl z⟩
  rw [if_pos rfl]; omega
theorem zg_s {g φ st : Int} (hφ : φ = 0 ∨ φ = 1) : g * zk φ (st + 1) = g * zk φ st + (if φ = 0 then g else 0) ∧ zk φ (st + 1) = zk φ st + (if φ = 0 then 1 else 0) := by
  rcases hφ with e | e
  · subst e; rw [zk_0, zk_0, if_pos rfl, if_pos rfl, Int.mul_add]; omega
  · subst e; rw [zk_1, zk_1, if_neg (by decide), if_neg (by decide)]; omega
