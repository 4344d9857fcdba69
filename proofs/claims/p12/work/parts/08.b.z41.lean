def zv8 (so : Nat → Int32) (b k : Int) : Int := if zg so (b + k) = 8 then 1 else 0
def zhL (so : Nat → Int32) (b φ k : Int) : Int := if φ = 0 then zsm (zv7 so b) k.toNat else 0
def zhC (so : Nat → Int32) (b φ k : Int) : Int := if φ = 0 then 3 * zsm (zv8 so b) k.toNat else 0
def zhX (φ k : Int) : Int := if φ = 0 then 4 * k else 0
def zCk (so va : Nat → Int32) (bs : Int) : List (Int × Int) → Int → Prop
  | [], _ => True
  | (κ, a) :: G, k => ((κ = 0 ∧ ∃ j : Int, 0 ≤ j ∧ j < k ∧ zg so (bs + j) = 8 ∧ zg va (bs + j) = a) ∨ ((κ = 1 ∨ κ = 2) ∧ 0 ≤ a ∧ a < k)) ∧ zCk so va bs G k
theorem zCk_m {so va : Nat → Int32} {bs k k' : Int} (hk : k ≤ k') : ∀ {G : List (Int × Int)}, zCk so va bs G k → zCk so va bs G k' := by
  intro G; induction G with
  | nil => intro _; trivial
  | cons x G ih =>
    obtain ⟨κ, a⟩ := x
    intro h
    obtain ⟨h1, h2⟩ := h
    refine ⟨?_, ih h2⟩
    rcases h1 with ⟨e, j, j0, j1, j2⟩ | ⟨e, a0, a1⟩
    · exact Or.inl ⟨e, j, j0, by omega, j2⟩
    · exact Or.inr ⟨e, a0, by omega⟩
theorem zCk_nd {so va le mo ho pa en fp pb pe : Nat → Int32} {bs q n c k r : Int} (h : zSl so va le mo ho pa en fp pb pe bs q n c) (hk : k < n) (hr : r = 470 + k ∨ r = 690 + k) (k0 : 0 ≤ k) : ∀ {G : List (Int × Int)}, zCk so va bs G k → zFree r G := by
  have n22 := h.2.1
  intro G; induction G with
  | nil => intro _; trivial
  | cons x G ih =>
    obtain ⟨κ, a⟩ := x
    intro hz
    obtain ⟨h1, h2⟩ := hz
    rcases h1 with ⟨e, j, j0, j1, j2, j3⟩ | ⟨e, a0, a1⟩
    · obtain ⟨p, _, ⟨_, _, _, _, _, _, _, _, d9, _⟩, _⟩ := zS_nd h j0 (show j < n by omega)
      have := d9 (by omega)
      exact ⟨fun _ => by omega, fun z => absurd e z, ih h2⟩
    · exact ⟨fun z => by omega, fun _ => by omega, ih h2⟩
theorem zCk_cp {so va le mo ho pa en fp pb pe : Nat → Int32} {bs q n c k : Int} (h : zSl so va le mo ho pa en fp pb pe bs q n c) (k0 : 0 ≤ k) (hk : k < n) (h8 : zg so (bs + k) = 8) : ∀ {G : List (Int × Int)}, zCk so va bs G k → zFree (20 + zg va (bs + k)) G := by
  obtain ⟨p, _, ⟨_, _, _, _, _, _, _, _, d9, _, d8, _⟩, _, _, _, _, d6⟩ := zS_nd h k0 hk
  have v1 := d8 h8
  have v9 := d9 (by omega)
  intro G; induction G with
  | nil => intro _; trivial
  | cons x G ih =>
    obtain ⟨κ, a⟩ := x
    intro hz
    obtain ⟨h1, h2⟩ := hz
    rcases h1 with ⟨e, j, j0, j1, j2, j3⟩ | ⟨e, a0, a1⟩
    · have := d6 j j0 j1 j2 h8
      exact ⟨fun _ => by omega, fun z => absurd e z, ih h2⟩
    · exact ⟨fun z => by omega, fun _ => by omega, ih h2⟩
theorem zCk_cx {so va le mo ho pa en fp pb pe : Nat → Int32} {bs q n c k : Int} (h : zSl so va le mo ho pa en fp pb pe bs q n c) (hk : k ≤ n) : ∀ {G : List (Int × Int)}, zCk so va bs G k → zCx G := by
  have n22 := h.2.1
  intro G; induction G with
  | nil => intro _; trivial
  | cons x G ih =>
    obtain ⟨κ, a⟩ := x
    intro hz
    obtain ⟨h1, h2⟩ := hz
    rcases h1 with ⟨e, j, j0, j1, j2, j3⟩ | ⟨e, a0, a1⟩
    · obtain ⟨p, _, ⟨_, _, _, _, _, _, _, _, d9, _, d8, _⟩, _⟩ := zS_nd h j0 (show j < n by omega)
      have := d9 (by omega); have := d8 j2
      exact ⟨fun _ => by omega, fun z => absurd e z, ih h2⟩
    · exact ⟨fun z => by omega, fun _ => by omega, ih h2⟩
def zNt (so va en : Nat → Int32) (bs n φ k : Int) (σ τ : zT) : Prop := (0 ≤ k ∧ k < n) ∧ zCk so va bs σ.1 k ∧ τ.1 = σ.1 ∧ τ.2.1 + zhL so bs φ (zg en (bs + k)) ≤ σ.2.1 + zhL so bs φ k ∧ τ.2.2.1 + zhC so bs φ (zg en (bs + k)) ≤ σ.2.2.1 + zhC so bs φ k ∧ τ.2.2.2 + zhX φ (zg en (bs + k)) ≤ σ.2.2.2 + zhX φ k
def zE (so va en : Nat → Int32) (bs n φ lb : Int) (Λ : Int → zT) (o a b : Int) (σ τ : zT) : Prop := (o = 100 ∧ zNt so va en bs n φ a σ τ) ∨ (o = 101 ∧ (0 ≤ a ∧ a < lb) ∧ σ = Λ a ∧ τ = σ) ∨ (zOp so va bs n φ lb Λ o a b σ τ ∧ (o = 19 → σ.1 = []))
def zK (so va en ta tA tB : Nat → Int32) (bs n φ lb : Int) (Λ : Int → zT) : Nat → zT → Prop
  | 0, _ => True
  | m + 1, σ => ∃ σ0 τ : zT, zge φ σ σ0 ∧ zRg σ0 ∧ zE so va en bs n φ lb Λ (zg ta m) (zg tA m) (zg tB m) σ0 τ ∧ (m = 0 → zg ta m = 19) ∧ zK so va en ta tA tB bs n φ lb Λ m τ
theorem zK_ge {so va en ta tA tB : Nat → Int32} {bs n φ lb : Int} {Λ : Int → zT} {m : Nat} {σ υ : zT} (h : zK so va en ta tA tB bs n φ lb Λ m σ) (h2 : zge φ υ σ) : zK so va en ta tA tB bs n φ lb Λ m υ := by
  cases m with
  | zero => trivial
  | succ m =>
    obtain ⟨σ0, τ, h1, h3⟩ := h
    exact ⟨σ0, τ, zge_tr h2 h1, h3⟩
theorem zK_co {so va en ta tA tB ta' tA' tB' : Nat → Int32} {bs n φ lb : Int} {Λ : Int → zT} : ∀ {m : Nat} {σ : zT}, (∀ j : Int, 0 ≤ j → j < m → zg ta' j = zg ta j ∧ zg tA' j = zg tA j ∧ zg tB' j = zg tB j) → zK so va en ta tA tB bs n φ lb Λ m σ → zK so va en ta' tA' tB' bs n φ lb Λ m σ := by
  intro m; induction m with
  | zero => intro σ _ _; trivial
  | succ m ih =>
    intro σ e h
    obtain ⟨σ0, τ, h1, h2, h3, h4, h5⟩ := h
    obtain ⟨e1, e2, e3⟩ := e m (by omega) (by omega)
    exact ⟨σ0, τ, h1, h2, by rw [e1, e2, e3]; exact h3, by rw [e1]; exact h4, ih (fun j j0 j1 => e j j0 (by omega)) h5⟩
theorem zOp_x {so va : Nat → Int32} {bs n φ lb lb' o a b : Int} {Λ Λ' : Int → zT} {σ τ : zT} (h : zOp so va bs n φ lb Λ o a b σ τ) (hl : lb ≤ lb') (e : ∀ l : Int, 0 ≤ l → l < lb → Λ' l = Λ l) : zOp so va bs n φ lb' Λ' o a b σ τ := by
  obtain ⟨⟨s0, s1, s2, s3, s4, s5, s6, s7, s8, s9, s10, s11, s12, s13, s14, s15⟩, nx⟩ := h
  refine ⟨⟨s0, s1, s2, s3, fun z => ?_, s5, s6, s7, s8, s9, fun z => ?_, fun z => ?_, s12, s13, fun z => ?_, s15⟩, nx⟩
  · obtain ⟨q1, q2, q3⟩ := s4 z; exact ⟨q1, by omega, by rw [e a q1 q2]; exact q3⟩
  · obtain ⟨q1, q2, q3⟩ := s10 z; exact ⟨q1, by omega, by rw [e b q1 q2]; exact q3⟩
  · obtain ⟨q1, q2, q3⟩ := s11 z; exact ⟨q1, by omega, by rw [e b q1 q2]; exact q3⟩
  · obtain ⟨q1, q2, q3⟩ := s14 z
    refine ⟨q1, q2, ?_⟩
    rcases q3 with q3 | ⟨q3, q4, q5⟩
    · exact Or.inl q3
    · exact Or.inr ⟨q3, by omega, by rw [e b q3 q4]; exact q5⟩
theorem zE_x {so va en : Nat → Int32} {bs n φ lb lb' o a b : Int} {Λ Λ' : Int → zT} {σ τ : zT} (h : zE so va en bs n φ lb Λ o a b σ τ) (hl : lb ≤ lb') (e : ∀ l : Int, 0 ≤ l → l < lb → Λ' l = Λ l) : zE so va en bs n φ lb' Λ' o a b σ τ := by
  rcases h with h | ⟨h1, h2, h3⟩ | ⟨h1, h2⟩
  · exact Or.inl h
  · exact Or.inr (Or.inl ⟨h1, ⟨h2.1, by omega⟩, by rw [e a h2.1 h2.2]; exact h3⟩)
  · exact Or.inr (Or.inr ⟨zOp_x h1 hl e, h2⟩)
theorem zK_x {so va en ta tA tB : Nat → Int32} {bs n φ lb lb' : Int} {Λ Λ' : Int → zT} (hl : lb ≤ lb') (e : ∀ l : Int, 0 ≤ l → l < lb → Λ' l = Λ l) : ∀ {m : Nat} {σ : zT}, zK so va en ta tA tB bs n φ lb Λ m σ → zK so va en ta tA tB bs n φ lb' Λ' m σ := by
  intro m; induction m with
  | zero => intro σ _; trivial
  | succ m ih =>
    intro σ h
    obtain ⟨σ0, τ, h1, h2, h3, h4, h5⟩ := h
    exact ⟨σ0, τ, h1, h2, zE_x h3 hl e, h4, ih h5⟩
def zcn (C : Int → zT) (N : Int) (σ : zT) (q : Int) : zT := if q = N then σ else C q
def zLd (so va ac aA aB la ta tA : Nat → Int32) (bs n φ N lb m : Int) (C Λ : Int → zT) (σ : zT) (d1 d2 : Int) : Prop :=
  (∀ p : Int, 0 ≤ p → p < N → zOp so va bs n φ lb Λ (zg ac p) (zg aA p) (zg aB p) (C p) (zcn C N σ (p + 1)) ∧ zRg (C p) ∧ (zg ac p = 19 → (C p).1 = [])) ∧
  (∀ l : Int, 0 ≤ l → l < lb → (l = d1 ∨ l = d2) ∨ (∃ i : Int, 0 ≤ i ∧ i < m ∧ zg ta i = 101 ∧ zg tA i = l) ∨ (0 ≤ zg la l ∧ zg la l ≤ N ∧ (m = 0 → zg la l < N) ∧ zge φ (Λ l) (zcn C N σ (zg la l)))) ∧
  ((zcn C N σ 0).1 = [] ∧ (φ = 0 → (zcn C N σ 0).2.1 ≤ 60 ∧ (zcn C N σ 0).2.2.1 ≤ 60))
def zc1 (Z : Int → Int) (o a : Int) : Int := if o = 100 then 12 * Z a - 4 else 1
def zc2 (Z : Int → Int) (o a : Int) : Int := if o = 100 then 4 * Z a - 3 else if o = 101 then 0 else zh 1 o
def zsu (c : Int → Int → Int) (ta tA : Nat → Int32) (m : Int) : Int := zsm (fun i => c (zg ta i) (zg tA i)) m.toNat
theorem zsu_p {c : Int → Int → Int} {ta tA ta' tA' : Nat → Int32} {i o a : Int32} {m' : Int} (e1 : ta' = upd ta i.toNatClampNeg o) (e2 : tA' = upd tA i.toNatClampNeg a) (h0 : 0 ≤ i.toInt) (hm : m' = i.toInt + 1) : zsu c ta' tA' m' = zsu c ta tA i.toInt + c o.toInt a.toInt := by
  subst hm; subst e1; subst e2
  unfold zsu
  rw [zsm_add h0, zg_eq, zg_eq]
  congr 1
  exact zsm_congr (fun k k0 k1 => by rw [zg_ne h0 k0 (by omega), zg_ne h0 k0 (by omega)])
def zW (so va en ac aA aB la ta tA tB : Nat → Int32) (Z : Int → Int) (bs n φ N lb m : Int) (C Λ : Int → zT) (σ ρ : zT) (d1 d2 B1 B2 : Int) : Prop := 1 ≤ m ∧ 0 ≤ lb ∧ zLd so va ac aA aB la ta tA bs n φ N lb m C Λ σ d1 d2 ∧ zK so va en ta tA tB bs n φ lb Λ m.toNat ρ ∧ lb + zsu (zc1 Z) ta tA m ≤ B1 ∧ zsu (zc2 Z) ta tA m ≤ B2
theorem zW_p {so va en ac aA aB la ta tA tB ta' tA' tB' : Nat → Int32} {Z : Int → Int} {bs n φ N lb m' : Int} {C Λ : Int → zT} {σ ρ ρ' : zT} {d1 d2 d1' d2' B1 B2 B1' B2' : Int} {i o a b : Int32} (h : zW so va en ac aA aB la ta tA tB Z bs n φ N lb i.toInt C Λ σ ρ d1 d2 B1 B2) (e1 : ta' = upd ta i.toNatClampNeg o) (e2 : tA' = upd tA i.toNatClampNeg a) (e3 : tB' = upd tB i.toNatClampNeg b) (hE : zE so va en bs n φ lb Λ o.toInt a.toInt b.toInt ρ' ρ) (hr : zRg ρ') (hd : ∀ l : Int, 0 ≤ l → l < lb → (l = d1 ∨ l = d2) → (l = d1' ∨ l = d2') ∨ (o.toInt = 101 ∧ l = a.toInt)) (hm : m' = i.toInt + 1) (hB1 : B1 + zc1 Z o.toInt a.toInt ≤ B1') (hB2 : B2 + zc2 Z o.toInt a.toInt ≤ B2') : zW so va en ac aA aB la ta' tA' tB' Z bs n φ N lb m' C Λ σ ρ' d1' d2' B1' B2' := by
  obtain ⟨h1, h2, ⟨l1, l2, l3⟩, k, s1, s2⟩ := h
  have i0 : 0 ≤ i.toInt := by omega
  have z1 := zsu_p (c := zc1 Z) e1 e2 i0 hm
  have z2 := zsu_p (c := zc2 Z) e1 e2 i0 hm
  refine ⟨by omega, h2, ⟨l1, fun l l0 lb0 => ?_, l3⟩, ?_, by omega, by omega⟩
  · rcases l2 l l0 lb0 with q | ⟨j, j0, j1, j2, j3⟩ | ⟨q1, q2, q3, q4⟩
    · rcases hd l l0 lb0 q with w | ⟨w, w2⟩
      · exact Or.inl w
      · refine Or.inr (Or.inl ⟨i.toInt, i0, by omega, by rw [e1, zg_eq]; exact w, by rw [e2, zg_eq]; exact w2.symm⟩)
    · refine Or.inr (Or.inl ⟨j, j0, by omega, by rw [e1, zg_ne i0 j0 (by omega)]; exact j2, by rw [e2, zg_ne i0 j0 (by omega)]; exact j3⟩)
    · exact Or.inr (Or.inr ⟨q1, q2, fun z => by omega, q4⟩)
  · subst hm
    rw [show (i.toInt + 1).toNat = i.toInt.toNat + 1 by omega]
    have ei : ((i.toInt.toNat : Nat) : Int) = i.toInt := by omega
    refine ⟨ρ', ρ, zge_rfl, hr, ?_, fun z => by omega, zK_co (fun j j0 j1 => ?_) k⟩
    · rw [ei, e1, e2, e3, zg_eq, zg_eq, zg_eq]; exact hE
    · rw [e1, e2, e3, zg_ne i0 j0 (by omega), zg_ne i0 j0 (by omega), zg_ne i0 j0 (by omega)]; exact ⟨rfl, rfl, rfl⟩
theorem zW_n {so va en ac aA aB la ta tA tB : Nat → Int32} {Z : Int → Int} {bs n φ N lb lb' m : Int} {C Λ : Int → zT} {σ ρ : zT} {d1 d2 d1' d2' B1 B2 B1' : Int} (h : zW so va en ac aA aB la ta tA tB Z bs n φ N lb m C Λ σ ρ d1 d2 B1 B2) (T : zT) (hl : lb' = lb + 1) (hd : ∀ l : Int, 0 ≤ l → (l = d1 ∨ l = d2 ∨ l = lb) → (l = d1' ∨ l = d2')) (hB : B1 + 1 ≤ B1') : zW so va en ac aA aB la ta tA tB Z bs n φ N lb' m C (fun l => if l = lb then T else Λ l) σ ρ d1' d2' B1' B2 := by
  obtain ⟨h1, h2, ⟨l1, l2, l3⟩, k, s1, s2⟩ := h
  have e : ∀ l : Int, 0 ≤ l → l < lb → (fun l => if l = lb then T else Λ l) l = Λ l := fun l l0 l1 => if_neg (by omega)
  refine ⟨h1, by omega, ⟨fun p p0 p1 => ?_, fun l l0 lb0 => ?_, l3⟩, zK_x (by omega) e k, by omega, s2⟩
  · obtain ⟨a, b⟩ := l1 p p0 p1
    exact ⟨zOp_x a (by omega) e, b⟩
  · by_cases q : l = lb
    · exact Or.inl (hd l l0 (by omega))
    · rcases l2 l l0 (by omega) with w | w | ⟨q1, q2, q3, q4⟩
      · exact Or.inl (hd l l0 (by omega))
      · exact Or.inr (Or.inl w)
      · exact Or.inr (Or.inr ⟨q1, q2, q3, by rw [e l l0 (by omega)]; exact q4⟩)
