def zv8 (so : Nat → Int32) (b k : Int) : Int := if zg so (b + k) = 8 then 1 else 0
def zhL (so : Nat → Int32) (b φ k : Int) : Int := if φ = 0 then zsm (zv7 so b) k.toNat else 0
def zhC (so : Nat → Int32) (b φ k : Int) : Int := if φ = 0 then 3 * zsm (zv8 so b) k.toNat else 0
def zhX (φ k : Int) : Int := if φ = 0 then 4 * k else 0
def zCk (so va : Nat → Int32) (bs : Int) : List (Int × Int) → Int → Prop
  | [], _ => True
  | (κ, a) :: G, k => ((κ = 0 ∧ ∃ j : Int, 0 ≤ j ∧ j < k ∧ zg so (bs + j) = 8 ∧ zg va (bs + j) = a) ∨ ((κ = 1 ∨ κ = 2) ∧ 0 ≤ a ∧ a < k)) ∧ zCk so va bs G k
theorem zCk_m {so va : Nat → Int32} {bs k kω : Int} (hk : k ≤ kω) : ∀ {G : List (Int × Int)}, zCk so va bs G k → zCk so va bs G kω := by
  intro G; induction G with
  | nil => intro _; trivial
  | cons x G ih =>
    obtain ⟨κ, a⟩ := x
    intro h
    obtain ⟨h1, h2⟩ := h
    refine ⟨?_, ih h2⟩
    rcases h1 with ⟨e, j, j0, j1, j2⟩ | ⟨e, a0, a1⟩
    · exact Or.inl ⟨e, j, j0, by omega, j2⟩
    · exact Or.inr ⟨e, a0, by omega⟩
theorem zCk_nd {so va le mo ho pa en fp pb pe : Nat → Int32} {bs q n c k r : Int} (h : zSl so va le mo ho pa en fp pb pe bs q n c) (hk : k < n) (hr : r = 470 + k ∨ r = 690 + k) (k0 : 0 ≤ k) : ∀ {G : List (Int × Int)}, zCk so va bs G k → zFree r G := by
  have n22 := h.2.1
  intro G; induction G with
  | nil => intro _; trivial
  | cons x G ih =>
    obtain ⟨κ, a⟩ := x
    intro hz
    obtain ⟨h1, h2⟩ := hz
    rcases h1 with ⟨e, j, j0, j1, j2, j3⟩ | ⟨e, a0, a1⟩
    · obtain ⟨p, _, ⟨_, _, _, _, _, _, _, _, d9, _⟩, _⟩ := zS_nd h j0 (show j < n by omega)
      have := d9 (by omega)
      exact ⟨fun _ => by omega, fun z => absurd e z, ih h2⟩
    · exact ⟨fun z => by omega, fun _ => by omega, ih h2⟩
theorem zCk_cp {so va le mo ho pa en fp pb pe : Nat → Int32} {bs q n c k : Int} (h : zSl so va le mo ho pa en fp pb pe bs q n c) (k0 : 0 ≤ k) (hk : k < n) (h8 : zg so (bs + k) = 8) : ∀ {G : List (Int × Int)}, zCk so va bs G k → zFree (20 + zg va (bs + k)) G := by
  obtain ⟨p, _, ⟨_, _, _, _, _, _, _, _, d9, _, d8, _⟩, _, _, _, _, d6⟩ := zS_nd h k0 hk
  have v1 := d8 h8
  have v9 := d9 (by omega)
  intro G; induction G with
  | nil => intro _; trivial
  | cons x G ih =>
    obtain ⟨κ, a⟩ := x
    intro hz
    obtain ⟨h1, h2⟩ := hz
    rcases h1 with ⟨e, j, j0, j1, j2, j3⟩ | ⟨e, a0, a1⟩
    · have := d6 j j0 j1 j2 h8
      exact ⟨fun _ => by omega, fun z => absurd e z, ih h2⟩
    · exact ⟨fun z => by omega, fun _ => by omega, ih h2⟩
theorem zCk_cx {so va le mo ho pa en fp pb pe : Nat → Int32} {bs q n c k : Int} (h : zSl so va le mo ho pa en fp pb pe bs q n c) (hk : k ≤ n) : ∀ {G : List (Int × Int)}, zCk so va bs G k → zCx G := by
  have n22 := h.2.1
  intro G; induction G with
  | nil => intro _; trivial
  | cons x G ih =>
    obtain ⟨κ, a⟩ := x
    intro hz
    obtain ⟨h1, h2⟩ := hz
    rcases h1 with ⟨e, j, j0, j1, j2, j3⟩ | ⟨e, a0, a1⟩
    · obtain ⟨p, _, ⟨_, _, _, _, _, _, _, _, d9, _, d8, _⟩, _⟩ := zS_nd h j0 (show j < n by omega)
      have := d9 (by omega); have := d8 j2
      exact ⟨fun _ => by omega, fun z => absurd e z, ih h2⟩
    · exact ⟨fun z => by omega, fun _ => by omega, ih h2⟩
def zNt (so va en : Nat → Int32) (bs n φ k : Int) (σ τ : zT) : Prop := (0 ≤ k ∧ k < n) ∧ zCk so va bs σ.1 k ∧ τ.1 = σ.1 ∧ τ.2.1 + zhL so bs φ (zg en (bs + k)) ≤ σ.2.1 + zhL so bs φ k ∧ τ.2.2.1 + zhC so bs φ (zg en (bs + k)) ≤ σ.2.2.1 + zhC so bs φ k ∧ τ.2.2.2 + zhX φ (zg en (bs + k)) ≤ σ.2.2.2 + zhX φ k
def zE (so va en : Nat → Int32) (bs n φ lb : Int) (Λ : Int → zT) (o a b : Int) (σ τ : zT) : Prop := (o = 100 ∧ zNt so va en bs n φ a σ τ) ∨ (o = 101 ∧ (0 ≤ a ∧ a < lb) ∧ σ = Λ a ∧ τ = σ) ∨ (zOp so va bs n φ lb Λ o a b σ τ ∧ (o = 19 → σ.1 = []))
def zK (so va en ta tA tB : Nat → Int32) (bs n φ lb : Int) (Λ : Int → zT) : Nat → zT → Prop
  | 0, _ => True
  | m + 1, σ => ∃ σ0 τ : zT, zge φ σ σ0 ∧ zRg σ0 ∧ zE so va en bs n φ lb Λ (zg ta m) (zg tA m) (zg tB m) σ0 τ ∧ (m = 0 → zg ta m = 19) ∧ zK so va en ta tA tB bs n φ lb Λ m τ
theorem zK_ge {so va en ta tA tB : Nat → Int32} {bs n φ lb : Int} {Λ : Int → zT} {m : Nat} {σ υ : zT} (h : zK so va en ta tA tB bs n φ lb Λ m σ) (h2 : zge φ υ σ) : zK so va en ta tA tB bs n φ lb Λ m υ := by
  cases m with
  | zero => trivial
  | succ m =>
    obtain ⟨σ0, τ, h1, h3⟩ := h
    exact ⟨σ0, τ, zge_tr h2 h1, h3⟩
theorem zK_co {so va en ta tA tB taω tAω tBω : Nat → Int32} {bs n φ lb : Int} {Λ : Int → zT} : ∀ {m : Nat} {σ : zT}, (∀ j : Int, 0 ≤ j → j < m → zg taω j = zg ta j ∧ zg tAω j = zg tA j ∧ zg tBω j = zg tB j) → zK so va en ta tA tB bs n φ lb Λ m σ → zK so va en taω tAω tBω bs n φ lb Λ m σ := by
  intro m; induction m with
  | zero => intro σ _ _; trivial
  | succ m ih =>
    intro σ e h
    obtain ⟨σ0, τ, h1, h2, h3, h4, h5⟩ := h
    obtain ⟨e1, e2, e3⟩ := e m (by omega) (by omega)
    exact ⟨σ0, τ, h1, h2, by rw [e1, e2, e3]; exact h3, by rw [e1]; exact h4, ih (fun j j0 j1 => e j j0 (by omega)) h5⟩
theorem zOp_x {so va : Nat → Int32} {bs n φ lb lb' o a b : Int} {Λ Λ' : Int → zT} {σ τ : zT} (h : zOp so va bs n φ lb Λ o a b σ τ) (hl : lb ≤ lb') (e : ∀ l : Int, 0 ≤ l → l < lb → Λ' l = Λ l) : zOp so va bs n φ lb' Λ' o a b σ τ := by
  obtain ⟨⟨s0, s1, s2, s3, s4, s5, s6, s7, s8, s9, s10, s11, s12, s13, s14, s15⟩, nx⟩ := h
  refine ⟨⟨s0, s1, s2, s3, fun z => ?_, s5, s6, s7, s8, s9, fun z => ?_, fun z => ?_, s12, s13, fun z => ?_, s15⟩, nx⟩
  · obtain ⟨q1, q2, q3⟩ := s4 z; exact ⟨q1, by omega, by rw [e a q1 q2]; exact q3⟩
  · obtain ⟨q1, q2, q3⟩ := s10 z; exact ⟨q1, by omega, by rw [e b q1 q2]; exact q3⟩
  · obtain ⟨q1, q2, q3⟩ := s11 z; exact ⟨q1, by omega, by rw [e b q1 q2]; exact q3⟩
  · obtain ⟨q1, q2, q3⟩ := s14 z
    refine ⟨q1, q2, ?_⟩
    rcases q3 with q3 | ⟨q3, q4, q5⟩
    · exact Or.inl q3
    · exact Or.inr ⟨q3, by omega, by rw [e b q3 q4]; exact q5⟩
theorem zE_x {so va en : Nat → Int32} {bs n φ lb lb' o a b : Int} {Λ Λ' : Int → zT} {σ τ : zT} (h : zE so va en bs n φ lb Λ o a b σ τ) (hl : lb ≤ lb') (e : ∀ l : Int, 0 ≤ l → l < lb → Λ' l = Λ l) : zE so va en bs n φ lb' Λ' o a b σ τ := by
  rcases h with h | ⟨h1, h2, h3⟩ | ⟨h1, h2⟩
  · exact Or.inl h
  · exact Or.inr (Or.inl ⟨h1, ⟨h2.1, by omega⟩, by rw [e a h2.1 h2.2]; exact h3⟩)
  · exact Or.inr (Or.inr ⟨zOp_x h1 hl e, h2⟩)
theorem zK_x {so va en ta tA tB : Nat → Int32} {bs n φ lb lb' : Int} {Λ Λ' : Int → zT} (hl : lb ≤ lb') (e : ∀ l : Int, 0 ≤ l → l < lb → Λ' l = Λ l) : ∀ {m : Nat} {σ : zT}, zK so va en ta tA tB bs n φ lb Λ m σ → zK so va en ta tA tB bs n φ lb' Λ' m σ := by
  intro m; induction m with
  | zero => intro σ _; trivial
  | succ m ih =>
    intro σ h
    obtain ⟨σ0, τ, h1, h2, h3, h4, h5⟩ := h
    exact ⟨σ0, τ, h1, h2, zE_x h3 hl e, h4, ih h5⟩
def zcn (C : Int → zT) (N : Int) (σ : zT) (q : Int) : zT := if q = N then σ else C q
def zLd (so va ac aA aB la ta tA : Nat → Int32) (bs n φ N lb m : Int) (C Λ : Int → zT) (σ : zT) (d1 d2 : Int) : Prop :=
  (∀ p : Int, 0 ≤ p → p < N → zOp so va bs n φ lb Λ (zg ac p) (zg aA p) (zg aB p) (C p) (zcn C N σ (p + 1)) ∧ zRg (C p) ∧ (zg ac p = 19 → (C p).1 = [])) ∧
  (∀ l : Int, 0 ≤ l → l < lb → (l = d1 ∨ l = d2) ∨ (∃ i : Int, 0 ≤ i ∧ i < m ∧ zg ta i = 101 ∧ zg tA i = l) ∨ (0 ≤ zg la l ∧ zg la l ≤ N ∧ (m = 0 → zg la l < N) ∧ zge φ (Λ l) (zcn C N σ (zg la l)))) ∧
  ((zcn C N σ 0).1 = [] ∧ (φ = 0 → (zcn C N σ 0).2.1 ≤ 60 ∧ (zcn C N σ 0).2.2.1 ≤ 60))
def zc1 (Z : Int → Int) (o a : Int) : Int := if o = 100 then 12 * Z a - 4 else 1
def zc2 (Z : Int → Int) (o a : Int) : Int := if o = 100 then 4 * Z a - 3 else if o = 101 then 0 else zh 1 o
def zsu (c : Int → Int → Int) (ta tA : Nat → Int32) (m : Int) : Int := zsm (fun i => c (zg ta i) (zg tA i)) m.toNat
theorem zsu_p {c : Int → Int → Int} {ta tA taω tAω : Nat → Int32} {i o a : Int32} {m' : Int} (e1 : taω = upd ta i.toNatClampNeg o) (e2 : tAω = upd tA i.toNatClampNeg a) (h0 : 0 ≤ i.toInt) (hm : m' = i.toInt + 1) : zsu c taω tAω m' = zsu c ta tA i.toInt + c o.toInt a.toInt := by
  subst hm; subst e1; subst e2
  unfold zsu
  rw [zsm_add h0, zg_eq, zg_eq]
  congr 1
  exact zsm_congr (fun k k0 k1 => by rw [zg_ne h0 k0 (by omega), zg_ne h0 k0 (by omega)])
def zW (so va en ac aA aB la ta tA tB : Nat → Int32) (Z : Int → Int) (bs n φ N lb m : Int) (C Λ : Int → zT) (σ ρ : zT) (d1 d2 B1 B2 : Int) : Prop := 1 ≤ m ∧ 0 ≤ lb ∧ zLd so va ac aA aB la ta tA bs n φ N lb m C Λ σ d1 d2 ∧ zK so va en ta tA tB bs n φ lb Λ m.toNat ρ ∧ lb + zsu (zc1 Z) ta tA m ≤ B1 ∧ zsu (zc2 Z) ta tA m ≤ B2
theorem zW_p {so va en ac aA aB la ta tA tB taω tAω tBω : Nat → Int32} {Z : Int → Int} {bs n φ N lb m' : Int} {C Λ : Int → zT} {σ ρ ρ' : zT} {d1 d2 d1' d2' B1 B2 B1' B2' : Int} {i o a b : Int32} (h : zW so va en ac aA aB la ta tA tB Z bs n φ N lb i.toInt C Λ σ ρ d1 d2 B1 B2) (e1 : taω = upd ta i.toNatClampNeg o) (e2 : tAω = upd tA i.toNatClampNeg a) (e3 : tBω = upd tB i.toNatClampNeg b) (hE : zE so va en bs n φ lb Λ o.toInt a.toInt b.toInt ρ' ρ) (hr : zRg ρ') (hd : ∀ l : Int, 0 ≤ l → l < lb → (l = d1 ∨ l = d2) → (l = d1' ∨ l = d2') ∨ (o.toInt = 101 ∧ l = a.toInt)) (hm : m' = i.toInt + 1) (hB1 : B1 + zc1 Z o.toInt a.toInt ≤ B1') (hB2 : B2 + zc2 Z o.toInt a.toInt ≤ B2') : zW so va en ac aA aB la taω tAω tBω Z bs n φ N lb m' C Λ σ ρ' d1' d2' B1' B2' := by
  obtain ⟨h1, h2, ⟨l1, l2, l3⟩, k, s1, s2⟩ := h
  have i0 : 0 ≤ i.toInt := by omega
  have z1 := zsu_p (c := zc1 Z) e1 e2 i0 hm
  have z2 := zsu_p (c := zc2 Z) e1 e2 i0 hm
  refine ⟨by omega, h2, ⟨l1, fun l l0 lb0 => ?_, l3⟩, ?_, by omega, by omega⟩
  · rcases l2 l l0 lb0 with q | ⟨j, j0, j1, j2, j3⟩ | ⟨q1, q2, q3, q4⟩
    · rcases hd l l0 lb0 q with w | ⟨w, w2⟩
      · exact Or.inl w
      · refine Or.inr (Or.inl ⟨i.toInt, i0, by omega, by rw [e1, zg_eq]; exact w, by rw [e2, zg_eq]; exact w2.symm⟩)
    · refine Or.inr (Or.inl ⟨j, j0, by omega, by rw [e1, zg_ne i0 j0 (by omega)]; exact j2, by rw [e2, zg_ne i0 j0 (by omega)]; exact j3⟩)
    · exact Or.inr (Or.inr ⟨q1, q2, fun z => by omega, q4⟩)
  · subst hm
    rw [show (i.toInt + 1).toNat = i.toInt.toNat + 1 by omega]
    have ei : ((i.toInt.toNat : Nat) : Int) = i.toInt := by omega
    refine ⟨ρ', ρ, zge_rfl, hr, ?_, fun z => by omega, zK_co (fun j j0 j1 => ?_) k⟩
    · rw [ei, e1, e2, e3, zg_eq, zg_eq, zg_eq]; exact hE
    · rw [e1, e2, e3, zg_ne i0 j0 (by omega), zg_ne i0 j0 (by omega), zg_ne i0 j0 (by omega)]; exact ⟨rfl, rfl, rfl⟩
theorem zW_n {so va en ac aA aB la ta tA tB : Nat → Int32} {Z : Int → Int} {bs n φ N lb lb' m : Int} {C Λ : Int → zT} {σ ρ : zT} {d1 d2 d1' d2' B1 B2 B1' : Int} (h : zW so va en ac aA aB la ta tA tB Z bs n φ N lb m C Λ σ ρ d1 d2 B1 B2) (T : zT) (hl : lb' = lb + 1) (hd : ∀ l : Int, 0 ≤ l → (l = d1 ∨ l = d2 ∨ l = lb) → (l = d1' ∨ l = d2')) (hB : B1 + 1 ≤ B1') : zW so va en ac aA aB la ta tA tB Z bs n φ N lb' m C (fun l => if l = lb then T else Λ l) σ ρ d1' d2' B1' B2 := by
  obtain ⟨h1, h2, ⟨l1, l2, l3⟩, k, s1, s2⟩ := h
  have e : ∀ l : Int, 0 ≤ l → l < lb → (fun l => if l = lb then T else Λ l) l = Λ l := fun l l0 l1 => if_neg (by omega)
  refine ⟨h1, by omega, ⟨fun p p0 p1 => ?_, fun l l0 lb0 => ?_, l3⟩, zK_x (by omega) e k, by omega, s2⟩
  · obtain ⟨a, b⟩ := l1 p p0 p1
    exact ⟨zOp_x a (by omega) e, b⟩
  · by_cases q : l = lb
    · exact Or.inl (hd l l0 (by omega))
    · rcases l2 l l0 (by omega) with w | w | ⟨q1, q2, q3, q4⟩
      · exact Or.inl (hd l l0 (by omega))
      · exact Or.inr (Or.inl w)
      · exact Or.inr (Or.inr ⟨q1, q2, q3, by rw [e l l0 (by omega)]; exact q4⟩)
theorem zO_0 {en : Nat → Int32} {so va : Nat → Int32} {bs n φ lb a b : Int} {Λ : Int → zT} {σ τ : zT} (ha : 0 ≤ a ∧ a < 3000) (hG : τ.1 = σ.1) (hn : φ = 0 → τ.2.1 ≤ σ.2.1 + (0) ∧ τ.2.2.1 ≤ σ.2.2.1 + (0) ∧ τ.2.2.2 ≤ 1000) (hk : 0 ≤ a ∧ a < n) (h0 : zg so (bs + a) ≤ 2) : zE so va en bs n φ lb Λ 0 a b σ τ := Or.inr (Or.inr ⟨⟨⟨⟨by decide, by decide, ha.1, ha.2⟩, fun _ => hk, fun _ => h0, fun e => absurd e (by decide), fun e => absurd e (by decide), fun e => absurd e (by decide), fun e => absurd e (by decide), fun e => absurd e (by decide), fun e => absurd e (by decide), fun e => absurd e (by decide), fun e => absurd e (by decide), fun e => absurd e (by decide), fun e => absurd e (by decide), fun e => absurd e (by decide), fun e => absurd e (by decide), fun e => absurd e (by decide)⟩, fun _ => ⟨hG, hn⟩⟩, fun e => absurd e (by decide)⟩)
theorem zO_1 {en : Nat → Int32} {so va : Nat → Int32} {bs n φ lb a b : Int} {Λ : Int → zT} {σ τ : zT} (ha : 0 ≤ a ∧ a < 3000) (hG : τ.1 = σ.1) (hn : φ = 0 → τ.2.1 ≤ σ.2.1 + (0) ∧ τ.2.2.1 ≤ σ.2.2.1 + (0) ∧ τ.2.2.2 ≤ 1000) (hk : 0 ≤ a ∧ a < n) : zE so va en bs n φ lb Λ 1 a b σ τ := Or.inr (Or.inr ⟨⟨⟨⟨by decide, by decide, ha.1, ha.2⟩, fun _ => hk, fun e => absurd e (by decide), fun e => absurd e (by decide), fun e => absurd e (by decide), fun e => absurd e (by decide), fun e => absurd e (by decide), fun e => absurd e (by decide), fun e => absurd e (by decide), fun e => absurd e (by decide), fun e => absurd e (by decide), fun e => absurd e (by decide), fun e => absurd e (by decide), fun e => absurd e (by decide), fun e => absurd e (by decide), fun e => absurd e (by decide)⟩, fun _ => ⟨hG, hn⟩⟩, fun e => absurd e (by decide)⟩)
theorem zO_2 {en : Nat → Int32} {so va : Nat → Int32} {bs n φ lb a b : Int} {Λ : Int → zT} {σ τ : zT} (ha : 0 ≤ a ∧ a < 3000) (hG : τ.1 = σ.1) (hn : φ = 0 → τ.2.1 ≤ σ.2.1 + (0) ∧ τ.2.2.1 ≤ σ.2.2.1 + (0) ∧ τ.2.2.2 ≤ 1000) (hk : 0 ≤ a ∧ a < n) (h2 : φ = 0 ∧ 0 ≤ zg va (bs + a) ∧ zg va (bs + a) ≤ 9) : zE so va en bs n φ lb Λ 2 a b σ τ := Or.inr (Or.inr ⟨⟨⟨⟨by decide, by decide, ha.1, ha.2⟩, fun _ => hk, fun e => absurd e (by decide), fun _ => h2, fun e => absurd e (by decide), fun e => absurd e (by decide), fun e => absurd e (by decide), fun e => absurd e (by decide), fun e => absurd e (by decide), fun e => absurd e (by decide), fun e => absurd e (by decide), fun e => absurd e (by decide), fun e => absurd e (by decide), fun e => absurd e (by decide), fun e => absurd e (by decide), fun e => absurd e (by decide)⟩, fun _ => ⟨hG, hn⟩⟩, fun e => absurd e (by decide)⟩)
theorem zO_3 {en : Nat → Int32} {so va : Nat → Int32} {bs n φ lb a b : Int} {Λ : Int → zT} {σ τ : zT} (ha : 0 ≤ a ∧ a < 3000) (hG : τ.1 = σ.1) (hn : φ = 0 → τ.2.1 ≤ σ.2.1 + (-1) ∧ τ.2.2.1 ≤ σ.2.2.1 + (0) ∧ τ.2.2.2 ≤ σ.2.2.2 - 1) (hl : 0 ≤ a ∧ a < lb ∧ zn φ σ.1 (Λ a) σ.2.1 σ.2.2.1 (σ.2.2.2 - 1)) : zE so va en bs n φ lb Λ 3 a b σ τ := Or.inr (Or.inr ⟨⟨⟨⟨by decide, by decide, ha.1, ha.2⟩, fun e => absurd e (by decide), fun e => absurd e (by decide), fun e => absurd e (by decide), fun _ => hl, fun e => absurd e (by decide), fun e => absurd e (by decide), fun e => absurd e (by decide), fun e => absurd e (by decide), fun e => absurd e (by decide), fun e => absurd e (by decide), fun e => absurd e (by decide), fun e => absurd e (by decide), fun e => absurd e (by decide), fun e => absurd e (by decide), fun e => absurd e (by decide)⟩, fun _ => ⟨hG, hn⟩⟩, fun e => absurd e (by decide)⟩)
theorem zO_4 {en : Nat → Int32} {so va : Nat → Int32} {bs n φ lb a b : Int} {Λ : Int → zT} {σ τ : zT} (ha : 0 ≤ a ∧ a < 3000) (hG : τ.1 = σ.1) (hn : φ = 0 → τ.2.1 ≤ σ.2.1 + (0) ∧ τ.2.2.1 ≤ σ.2.2.1 + (0) ∧ τ.2.2.2 ≤ σ.2.2.2 - 1) (hl : 0 ≤ a ∧ a < lb ∧ zn φ σ.1 (Λ a) σ.2.1 σ.2.2.1 (σ.2.2.2 - 1)) (h4 : φ = 1) : zE so va en bs n φ lb Λ 4 a b σ τ := Or.inr (Or.inr ⟨⟨⟨⟨by decide, by decide, ha.1, ha.2⟩, fun e => absurd e (by decide), fun e => absurd e (by decide), fun e => absurd e (by decide), fun _ => hl, fun _ => h4, fun e => absurd e (by decide), fun e => absurd e (by decide), fun e => absurd e (by decide), fun e => absurd e (by decide), fun e => absurd e (by decide), fun e => absurd e (by decide), fun e => absurd e (by decide), fun e => absurd e (by decide), fun e => absurd e (by decide), fun e => absurd e (by decide)⟩, fun _ => ⟨hG, hn⟩⟩, fun e => absurd e (by decide)⟩)
theorem zO_5 {en : Nat → Int32} {so va : Nat → Int32} {bs n φ lb a b : Int} {Λ : Int → zT} {σ τ : zT} (ha : 0 ≤ a ∧ a < 3000) (hl : 0 ≤ a ∧ a < lb ∧ zn φ σ.1 (Λ a) σ.2.1 σ.2.2.1 (σ.2.2.2 - 1)) : zE so va en bs n φ lb Λ 5 a b σ τ := Or.inr (Or.inr ⟨⟨⟨⟨by decide, by decide, ha.1, ha.2⟩, fun e => absurd e (by decide), fun e => absurd e (by decide), fun e => absurd e (by decide), fun _ => hl, fun e => absurd e (by decide), fun e => absurd e (by decide), fun e => absurd e (by decide), fun e => absurd e (by decide), fun e => absurd e (by decide), fun e => absurd e (by decide), fun e => absurd e (by decide), fun e => absurd e (by decide), fun e => absurd e (by decide), fun e => absurd e (by decide), fun e => absurd e (by decide)⟩, fun z => absurd rfl z.1⟩, fun e => absurd e (by decide)⟩)
theorem zO_6 {en : Nat → Int32} {so va : Nat → Int32} {bs n φ lb a b : Int} {Λ : Int → zT} {σ τ : zT} (ha : 0 ≤ a ∧ a < 3000) (hG : τ.1 = (0, a) :: σ.1) (hn : φ = 0 → τ.2.1 ≤ σ.2.1 + (0) ∧ τ.2.2.1 ≤ σ.2.2.1 + (-1) ∧ τ.2.2.2 ≤ σ.2.2.2 - 1) (h6 : 1 ≤ a ∧ a ≤ 9) (hf : zFree (20 + a) σ.1) : zE so va en bs n φ lb Λ 6 a b σ τ := Or.inr (Or.inr ⟨⟨⟨⟨by decide, by decide, ha.1, ha.2⟩, fun e => absurd e (by decide), fun e => absurd e (by decide), fun e => absurd e (by decide), fun e => absurd e (by decide), fun e => absurd e (by decide), fun _ => h6, fun _ => hf, fun e => absurd e (by decide), fun e => absurd e (by decide), fun e => absurd e (by decide), fun e => absurd e (by decide), fun e => absurd e (by decide), fun e => absurd e (by decide), fun e => absurd e (by decide), fun e => absurd e (by decide)⟩, fun _ => ⟨hG, hn⟩⟩, fun e => absurd e (by decide)⟩)
theorem zO_7 {en : Nat → Int32} {so va : Nat → Int32} {bs n φ lb a b : Int} {Λ : Int → zT} {σ τ : zT} (ha : 0 ≤ a ∧ a < 3000) (hG : τ.1 = σ.1.tail) (hn : φ = 0 → τ.2.1 ≤ σ.2.1 + (0) ∧ τ.2.2.1 ≤ σ.2.2.1 + (-2) ∧ τ.2.2.2 ≤ σ.2.2.2 - 1) (h6 : 1 ≤ a ∧ a ≤ 9) (h7 : ∃ G, σ.1 = (0, a) :: G) : zE so va en bs n φ lb Λ 7 a b σ τ := Or.inr (Or.inr ⟨⟨⟨⟨by decide, by decide, ha.1, ha.2⟩, fun e => absurd e (by decide), fun e => absurd e (by decide), fun e => absurd e (by decide), fun e => absurd e (by decide), fun e => absurd e (by decide), fun _ => h6, fun e => absurd e (by decide), fun _ => h7, fun e => absurd e (by decide), fun e => absurd e (by decide), fun e => absurd e (by decide), fun e => absurd e (by decide), fun e => absurd e (by decide), fun e => absurd e (by decide), fun e => absurd e (by decide)⟩, fun _ => ⟨hG, hn⟩⟩, fun e => absurd e (by decide)⟩)
theorem zO_8 {en : Nat → Int32} {so va : Nat → Int32} {bs n φ lb a b : Int} {Λ : Int → zT} {σ τ : zT} (ha : 0 ≤ a ∧ a < 3000) (hG : τ.1 = σ.1) (hn : φ = 0 → τ.2.1 ≤ σ.2.1 + (0) ∧ τ.2.2.1 ≤ σ.2.2.1 + (0) ∧ τ.2.2.2 ≤ σ.2.2.2 - 1) (h8 : φ = 0) (hk : 0 ≤ a ∧ a < n) : zE so va en bs n φ lb Λ 8 a b σ τ := Or.inr (Or.inr ⟨⟨⟨⟨by decide, by decide, ha.1, ha.2⟩, fun e => absurd e (by decide), fun e => absurd e (by decide), fun e => absurd e (by decide), fun e => absurd e (by decide), fun e => absurd e (by decide), fun e => absurd e (by decide), fun e => absurd e (by decide), fun e => absurd e (by decide), fun _ _ => ⟨h8, fun _ => hk⟩, fun e => absurd e (by decide), fun e => absurd e (by decide), fun e => absurd e (by decide), fun e => absurd e (by decide), fun e => absurd e (by decide), fun e => absurd e (by decide)⟩, fun _ => ⟨hG, hn⟩⟩, fun e => absurd e (by decide)⟩)
theorem zO_9 {en : Nat → Int32} {so va : Nat → Int32} {bs n φ lb a b : Int} {Λ : Int → zT} {σ τ : zT} (ha : 0 ≤ a ∧ a < 3000) (hG : τ.1 = σ.1) (hn : φ = 0 → τ.2.1 ≤ σ.2.1 + (51) ∧ τ.2.2.1 ≤ σ.2.2.1 + (30) ∧ τ.2.2.2 ≤ 1000) (h8 : φ = 0) (hk : 0 ≤ a ∧ a < n) (hl : 0 ≤ b ∧ b < lb ∧ zn φ σ.1 (Λ b) (σ.2.1 - 1) σ.2.2.1 (σ.2.2.2 - 1)) : zE so va en bs n φ lb Λ 9 a b σ τ := Or.inr (Or.inr ⟨⟨⟨⟨by decide, by decide, ha.1, ha.2⟩, fun e => absurd e (by decide), fun e => absurd e (by decide), fun e => absurd e (by decide), fun e => absurd e (by decide), fun e => absurd e (by decide), fun e => absurd e (by decide), fun e => absurd e (by decide), fun e => absurd e (by decide), fun _ _ => ⟨h8, fun _ => hk⟩, fun _ => hl, fun e => absurd e (by decide), fun e => absurd e (by decide), fun e => absurd e (by decide), fun e => absurd e (by decide), fun e => absurd e (by decide)⟩, fun _ => ⟨hG, hn⟩⟩, fun e => absurd e (by decide)⟩)
theorem zO_10 {en : Nat → Int32} {so va : Nat → Int32} {bs n φ lb a b : Int} {Λ : Int → zT} {σ τ : zT} (ha : 0 ≤ a ∧ a < 3000) (h8 : φ = 0) (hk : 0 ≤ a ∧ a < n) (hl : 0 ≤ b ∧ b < lb ∧ zn φ σ.1 (Λ b) σ.2.1 σ.2.2.1 (σ.2.2.2 - 1)) : zE so va en bs n φ lb Λ 10 a b σ τ := Or.inr (Or.inr ⟨⟨⟨⟨by decide, by decide, ha.1, ha.2⟩, fun e => absurd e (by decide), fun e => absurd e (by decide), fun e => absurd e (by decide), fun e => absurd e (by decide), fun e => absurd e (by decide), fun e => absurd e (by decide), fun e => absurd e (by decide), fun e => absurd e (by decide), fun _ _ => ⟨h8, fun _ => hk⟩, fun e => absurd e (by decide), fun _ => hl, fun e => absurd e (by decide), fun e => absurd e (by decide), fun e => absurd e (by decide), fun e => absurd e (by decide)⟩, fun z => absurd rfl z.2.1⟩, fun e => absurd e (by decide)⟩)
theorem zO_11 {en : Nat → Int32} {so va : Nat → Int32} {bs n φ lb a b : Int} {Λ : Int → zT} {σ τ : zT} (ha : 0 ≤ a ∧ a < 3000) (hG : τ.1 = (1, a) :: σ.1) (hn : φ = 0 → τ.2.1 ≤ σ.2.1 + (52) ∧ τ.2.2.1 ≤ σ.2.2.1 + (32) ∧ τ.2.2.2 ≤ 1000) (h8 : φ = 0) (hk : 0 ≤ a ∧ a < n) (hf : zFree (470 + a) σ.1) : zE so va en bs n φ lb Λ 11 a b σ τ := Or.inr (Or.inr ⟨⟨⟨⟨by decide, by decide, ha.1, ha.2⟩, fun e => absurd e (by decide), fun e => absurd e (by decide), fun e => absurd e (by decide), fun e => absurd e (by decide), fun e => absurd e (by decide), fun e => absurd e (by decide), fun e => absurd e (by decide), fun e => absurd e (by decide), fun _ _ => ⟨h8, fun _ => hk⟩, fun e => absurd e (by decide), fun e => absurd e (by decide), fun _ => hf, fun e => absurd e (by decide), fun e => absurd e (by decide), fun e => absurd e (by decide)⟩, fun _ => ⟨hG, hn⟩⟩, fun e => absurd e (by decide)⟩)
theorem zO_12 {en : Nat → Int32} {so va : Nat → Int32} {bs n φ lb a b : Int} {Λ : Int → zT} {σ τ : zT} (ha : 0 ≤ a ∧ a < 3000) (hG : τ.1 = σ.1.tail) (hn : φ = 0 → τ.2.1 ≤ σ.2.1 + (0) ∧ τ.2.2.1 ≤ σ.2.2.1 + (0) ∧ τ.2.2.2 ≤ σ.2.2.2 - 1) (h8 : φ = 0) (hk : 0 ≤ a ∧ a < n) (h7 : ∃ G, σ.1 = (1, a) :: G) : zE so va en bs n φ lb Λ 12 a b σ τ := Or.inr (Or.inr ⟨⟨⟨⟨by decide, by decide, ha.1, ha.2⟩, fun e => absurd e (by decide), fun e => absurd e (by decide), fun e => absurd e (by decide), fun e => absurd e (by decide), fun e => absurd e (by decide), fun e => absurd e (by decide), fun e => absurd e (by decide), fun e => absurd e (by decide), fun _ _ => ⟨h8, fun _ => hk⟩, fun e => absurd e (by decide), fun e => absurd e (by decide), fun e => absurd e (by decide), fun _ => h7, fun e => absurd e (by decide), fun e => absurd e (by decide)⟩, fun _ => ⟨hG, hn⟩⟩, fun e => absurd e (by decide)⟩)
theorem zO_13 {en : Nat → Int32} {so va : Nat → Int32} {bs n φ lb a b : Int} {Λ : Int → zT} {σ τ : zT} (ha : 0 ≤ a ∧ a < 3000) (hG : τ.1 = (2, a) :: σ.1) (hn : φ = 0 → τ.2.1 ≤ σ.2.1 + (51) ∧ τ.2.2.1 ≤ σ.2.2.1 + (30) ∧ τ.2.2.2 ≤ 1000) (h8 : φ = 0) (hk : 0 ≤ a ∧ a < n) (hf : zFree (470 + a) σ.1 ∧ zFree (690 + a) σ.1 ∧ (b = -1 ∨ (0 ≤ b ∧ b < lb ∧ zn φ σ.1 (Λ b) (σ.2.1 + 50) (σ.2.2.1 + 30) 1000))) : zE so va en bs n φ lb Λ 13 a b σ τ := Or.inr (Or.inr ⟨⟨⟨⟨by decide, by decide, ha.1, ha.2⟩, fun e => absurd e (by decide), fun e => absurd e (by decide), fun e => absurd e (by decide), fun e => absurd e (by decide), fun e => absurd e (by decide), fun e => absurd e (by decide), fun e => absurd e (by decide), fun e => absurd e (by decide), fun _ _ => ⟨h8, fun _ => hk⟩, fun e => absurd e (by decide), fun e => absurd e (by decide), fun e => absurd e (by decide), fun e => absurd e (by decide), fun _ => hf, fun e => absurd e (by decide)⟩, fun _ => ⟨hG, hn⟩⟩, fun e => absurd e (by decide)⟩)
theorem zO_14 {en : Nat → Int32} {so va : Nat → Int32} {bs n φ lb a b : Int} {Λ : Int → zT} {σ τ : zT} (ha : 0 ≤ a ∧ a < 3000) (hG : τ.1 = σ.1.tail) (hn : φ = 0 → τ.2.1 ≤ σ.2.1 + (0) ∧ τ.2.2.1 ≤ σ.2.2.1 + (0) ∧ τ.2.2.2 ≤ σ.2.2.2 - 1) (h8 : φ = 0) (hk : 0 ≤ a ∧ a < n) (h7 : ∃ G, σ.1 = (2, a) :: G) : zE so va en bs n φ lb Λ 14 a b σ τ := Or.inr (Or.inr ⟨⟨⟨⟨by decide, by decide, ha.1, ha.2⟩, fun e => absurd e (by decide), fun e => absurd e (by decide), fun e => absurd e (by decide), fun e => absurd e (by decide), fun e => absurd e (by decide), fun e => absurd e (by decide), fun e => absurd e (by decide), fun e => absurd e (by decide), fun _ _ => ⟨h8, fun _ => hk⟩, fun e => absurd e (by decide), fun e => absurd e (by decide), fun e => absurd e (by decide), fun e => absurd e (by decide), fun e => absurd e (by decide), fun _ => h7⟩, fun _ => ⟨hG, hn⟩⟩, fun e => absurd e (by decide)⟩)
theorem zO_15 {en : Nat → Int32} {so va : Nat → Int32} {bs n φ lb a b : Int} {Λ : Int → zT} {σ τ : zT} (ha : 0 ≤ a ∧ a < 3000) (hG : τ.1 = (2, a) :: σ.1) (hn : φ = 0 → τ.2.1 ≤ σ.2.1 + (51) ∧ τ.2.2.1 ≤ σ.2.2.1 + (30) ∧ τ.2.2.2 ≤ 1000) (h8 : φ = 0) (hk : 0 ≤ a ∧ a < n) (hf : zFree (470 + a) σ.1 ∧ zFree (690 + a) σ.1 ∧ (b = -1 ∨ (0 ≤ b ∧ b < lb ∧ zn φ σ.1 (Λ b) (σ.2.1 + 50) (σ.2.2.1 + 30) 1000))) : zE so va en bs n φ lb Λ 15 a b σ τ := Or.inr (Or.inr ⟨⟨⟨⟨by decide, by decide, ha.1, ha.2⟩, fun e => absurd e (by decide), fun e => absurd e (by decide), fun e => absurd e (by decide), fun e => absurd e (by decide), fun e => absurd e (by decide), fun e => absurd e (by decide), fun e => absurd e (by decide), fun e => absurd e (by decide), fun _ _ => ⟨h8, fun _ => hk⟩, fun e => absurd e (by decide), fun e => absurd e (by decide), fun e => absurd e (by decide), fun e => absurd e (by decide), fun _ => hf, fun e => absurd e (by decide)⟩, fun _ => ⟨hG, hn⟩⟩, fun e => absurd e (by decide)⟩)
theorem zO_16 {en : Nat → Int32} {so va : Nat → Int32} {bs n φ lb a b : Int} {Λ : Int → zT} {σ τ : zT} (ha : 0 ≤ a ∧ a < 3000) (h8 : φ = 0) (hk : 0 ≤ a ∧ a < n) (h7 : ∃ G, σ.1 = (2, a) :: G) : zE so va en bs n φ lb Λ 16 a b σ τ := Or.inr (Or.inr ⟨⟨⟨⟨by decide, by decide, ha.1, ha.2⟩, fun e => absurd e (by decide), fun e => absurd e (by decide), fun e => absurd e (by decide), fun e => absurd e (by decide), fun e => absurd e (by decide), fun e => absurd e (by decide), fun e => absurd e (by decide), fun e => absurd e (by decide), fun _ _ => ⟨h8, fun _ => hk⟩, fun e => absurd e (by decide), fun e => absurd e (by decide), fun e => absurd e (by decide), fun e => absurd e (by decide), fun e => absurd e (by decide), fun _ => h7⟩, fun z => absurd rfl z.2.2.1⟩, fun e => absurd e (by decide)⟩)
theorem zO_17 {en : Nat → Int32} {so va : Nat → Int32} {bs n φ lb a b : Int} {Λ : Int → zT} {σ τ : zT} (ha : 0 ≤ a ∧ a < 3000) (hG : τ.1 = (2, a) :: σ.1) (hn : φ = 0 → τ.2.1 ≤ σ.2.1 + (50) ∧ τ.2.2.1 ≤ σ.2.2.1 + (30) ∧ τ.2.2.2 ≤ 1000) (h8 : φ = 0) (hk : 0 ≤ a ∧ a < n) (hf : zFree (470 + a) σ.1 ∧ zFree (690 + a) σ.1 ∧ (b = -1 ∨ (0 ≤ b ∧ b < lb ∧ zn φ σ.1 (Λ b) (σ.2.1 + 50) (σ.2.2.1 + 30) 1000))) : zE so va en bs n φ lb Λ 17 a b σ τ := Or.inr (Or.inr ⟨⟨⟨⟨by decide, by decide, ha.1, ha.2⟩, fun e => absurd e (by decide), fun e => absurd e (by decide), fun e => absurd e (by decide), fun e => absurd e (by decide), fun e => absurd e (by decide), fun e => absurd e (by decide), fun e => absurd e (by decide), fun e => absurd e (by decide), fun _ _ => ⟨h8, fun _ => hk⟩, fun e => absurd e (by decide), fun e => absurd e (by decide), fun e => absurd e (by decide), fun e => absurd e (by decide), fun _ => hf, fun e => absurd e (by decide)⟩, fun _ => ⟨hG, hn⟩⟩, fun e => absurd e (by decide)⟩)
theorem zO_18 {en : Nat → Int32} {so va : Nat → Int32} {bs n φ lb a b : Int} {Λ : Int → zT} {σ τ : zT} (ha : 0 ≤ a ∧ a < 3000) (hG : τ.1 = σ.1.tail) (hn : φ = 0 → τ.2.1 ≤ σ.2.1 + (0) ∧ τ.2.2.1 ≤ σ.2.2.1 + (0) ∧ τ.2.2.2 ≤ σ.2.2.2 - 1) (h8 : φ = 0) (hk : 0 ≤ a ∧ a < n) (h7 : ∃ G, σ.1 = (2, a) :: G) : zE so va en bs n φ lb Λ 18 a b σ τ := Or.inr (Or.inr ⟨⟨⟨⟨by decide, by decide, ha.1, ha.2⟩, fun e => absurd e (by decide), fun e => absurd e (by decide), fun e => absurd e (by decide), fun e => absurd e (by decide), fun e => absurd e (by decide), fun e => absurd e (by decide), fun e => absurd e (by decide), fun e => absurd e (by decide), fun _ _ => ⟨h8, fun _ => hk⟩, fun e => absurd e (by decide), fun e => absurd e (by decide), fun e => absurd e (by decide), fun e => absurd e (by decide), fun e => absurd e (by decide), fun _ => h7⟩, fun _ => ⟨hG, hn⟩⟩, fun e => absurd e (by decide)⟩)
theorem zO_19 {en : Nat → Int32} {so va : Nat → Int32} {bs n φ lb a b : Int} {Λ : Int → zT} {σ τ : zT} (ha : 0 ≤ a ∧ a < 3000) (h19 : σ.1 = []) : zE so va en bs n φ lb Λ 19 a b σ τ := Or.inr (Or.inr ⟨⟨⟨⟨by decide, by decide, ha.1, ha.2⟩, fun e => absurd e (by decide), fun e => absurd e (by decide), fun e => absurd e (by decide), fun e => absurd e (by decide), fun e => absurd e (by decide), fun e => absurd e (by decide), fun e => absurd e (by decide), fun e => absurd e (by decide), fun _ e => absurd rfl e, fun e => absurd e (by decide), fun e => absurd e (by decide), fun e => absurd e (by decide), fun e => absurd e (by decide), fun e => absurd e (by decide), fun e => absurd e (by decide)⟩, fun z => absurd rfl z.2.2.2.1⟩, fun _ => h19⟩)
theorem zO_20 {en : Nat → Int32} {so va : Nat → Int32} {bs n φ lb a b : Int} {Λ : Int → zT} {σ τ : zT} (ha : 0 ≤ a ∧ a < 3000) (h8 : φ = 0) (hk : 0 ≤ a ∧ a < n) (h7 : ∃ G, σ.1 = (2, a) :: G) : zE so va en bs n φ lb Λ 20 a b σ τ := Or.inr (Or.inr ⟨⟨⟨⟨by decide, by decide, ha.1, ha.2⟩, fun e => absurd e (by decide), fun e => absurd e (by decide), fun e => absurd e (by decide), fun e => absurd e (by decide), fun e => absurd e (by decide), fun e => absurd e (by decide), fun e => absurd e (by decide), fun e => absurd e (by decide), fun _ _ => ⟨h8, fun _ => hk⟩, fun e => absurd e (by decide), fun e => absurd e (by decide), fun e => absurd e (by decide), fun e => absurd e (by decide), fun e => absurd e (by decide), fun _ => h7⟩, fun z => absurd rfl z.2.2.2.2⟩, fun e => absurd e (by decide)⟩)
theorem zO_21 {en : Nat → Int32} {so va : Nat → Int32} {bs n φ lb a b : Int} {Λ : Int → zT} {σ τ : zT} (ha : 0 ≤ a ∧ a < 3000) (hG : τ.1 = σ.1) (hn : φ = 0 → τ.2.1 ≤ σ.2.1 + (52) ∧ τ.2.2.1 ≤ σ.2.2.1 + (33) ∧ τ.2.2.2 ≤ 1000) (h8 : φ = 0) : zE so va en bs n φ lb Λ 21 a b σ τ := Or.inr (Or.inr ⟨⟨⟨⟨by decide, by decide, ha.1, ha.2⟩, fun e => absurd e (by decide), fun e => absurd e (by decide), fun e => absurd e (by decide), fun e => absurd e (by decide), fun e => absurd e (by decide), fun e => absurd e (by decide), fun e => absurd e (by decide), fun e => absurd e (by decide), fun _ _ => ⟨h8, fun z => absurd rfl z⟩, fun e => absurd e (by decide), fun e => absurd e (by decide), fun e => absurd e (by decide), fun e => absurd e (by decide), fun e => absurd e (by decide), fun e => absurd e (by decide)⟩, fun _ => ⟨hG, hn⟩⟩, fun e => absurd e (by decide)⟩)
theorem zv7_b {so : Nat → Int32} {b k : Int} : 0 ≤ zv7 so b k := by unfold zv7; split <;> omega
theorem zv8_b {so : Nat → Int32} {b k : Int} : 0 ≤ zv8 so b k := by unfold zv8; split <;> omega
theorem zC9 {so va le mo ho pa en fp pb pe : Nat → Int32} {b q n c : Int} (h : zSl so va le mo ho pa en fp pb pe b q n c) : ∀ {k : Nat}, (k : Int) ≤ n → zsm (zv8 so b) k ≤ 9 ∧ ∀ j : Int, k ≤ j → j < n → zg so (b + j) = 8 → zsm (zv8 so b) k + 1 ≤ zg va (b + j) := by
  intro k; induction k with
  | zero =>
    intro _
    refine ⟨by show (0 : Int) ≤ 9; omega, fun j j0 j1 j2 => ?_⟩
    obtain ⟨p, _, ⟨_, _, _, _, _, _, _, _, d9, _, d8, _⟩, _⟩ := zS_nd h (show 0 ≤ j by omega) j1
    have := d8 j2
    show (0 : Int) + 1 ≤ _; omega
  | succ k ih =>
    intro hk
    obtain ⟨i1, i2⟩ := ih (by omega)
    have e : zsm (zv8 so b) (k + 1) = zsm (zv8 so b) k + zv8 so b k := rfl
    rw [e]
    by_cases q : zg so (b + (k : Int)) = 8
    · have v : zv8 so b k = 1 := if_pos q
      have a := i2 k (Int.le_refl _) (by omega) q
      obtain ⟨p, _, ⟨_, _, _, _, _, _, _, _, d9, _⟩, _⟩ := zS_nd h (show 0 ≤ (k : Int) by omega) (by omega)
      have := d9 (by omega)
      refine ⟨by omega, fun j j0 j1 j2 => ?_⟩
      obtain ⟨p, _, _, _, _, _, _, d6⟩ := zS_nd h (show 0 ≤ j by omega) j1
      have := d6 k (by omega) (by omega) q j2
      omega
    · have v : zv8 so b k = 0 := if_neg q
      refine ⟨by omega, fun j j0 j1 j2 => ?_⟩
      have := i2 j (by omega) j1 j2
      omega
theorem zh_m {so va le mo ho pa en fp pb pe : Nat → Int32} {b q n c φ k e : Int} (h : zSl so va le mo ho pa en fp pb pe b q n c) (k0 : 0 ≤ k) (hk : k ≤ e) (he : e ≤ n) : (zhL so b φ k ≤ zhL so b φ e ∧ zhL so b φ e ≤ zhL so b φ k + 50) ∧ (zhC so b φ k ≤ zhC so b φ e ∧ zhC so b φ e ≤ zhC so b φ k + 27) ∧ (zhX φ k ≤ zhX φ e) ∧ (0 ≤ zhL so b φ k ∧ 0 ≤ zhC so b φ k ∧ 0 ≤ zhX φ k) := by
  have a1 := zsm_mono (f := zv7 so b) (fun _ => zv7_b) (show k.toNat ≤ e.toNat by omega)
  have a2 := zsm_mono (f := zv7 so b) (fun _ => zv7_b) (show e.toNat ≤ n.toNat by omega)
  have a3 := zsm_nn (f := zv7 so b) (fun _ => zv7_b) (n := k.toNat)
  have b1 := zsm_mono (f := zv8 so b) (fun _ => zv8_b) (show k.toNat ≤ e.toNat by omega)
  have b2 := (zC9 h (k := e.toNat) (by omega)).1
  have b3 := zsm_nn (f := zv8 so b) (fun _ => zv8_b) (n := k.toNat)
  obtain ⟨_, _, _, _, p, _, _, _, _, l50, _⟩ := h
  unfold zhL zhC zhX
  by_cases z : φ = 0
  · rw [if_pos z, if_pos z, if_pos z, if_pos z, if_pos z, if_pos z]; omega
  · rw [if_neg z, if_neg z, if_neg z, if_neg z, if_neg z, if_neg z]; omega
theorem zh_1 {so : Nat → Int32} {b φ k : Int} (k0 : 0 ≤ k) (hφ : φ = 0) : (zg so (b + k) = 7 → zhL so b φ k + 1 ≤ zhL so b φ (k + 1)) ∧ (zg so (b + k) = 8 → zhC so b φ k + 3 ≤ zhC so b φ (k + 1)) ∧ zhX φ (k + 1) = zhX φ k + 4 := by
  unfold zhL zhC zhX
  rw [if_pos hφ, if_pos hφ, if_pos hφ, if_pos hφ, if_pos hφ, if_pos hφ, zsm_s1 k0, zsm_s1 k0]
  refine ⟨fun e => ?_, fun e => ?_, by omega⟩
  · have : zv7 so b k = 1 := if_pos e
    omega
  · have : zv8 so b k = 1 := if_pos e
    omega
def zsh (so : Nat → Int32) (b φ : Int) (τ : zT) (G : List (Int × Int)) (p e : Int) (u r x : Int) : zT := (G, τ.2.1 + zhL so b φ e - zhL so b φ p + u, τ.2.2.1 + zhC so b φ e - zhC so b φ p + r, τ.2.2.2 + zhX φ e - zhX φ p + x)
theorem zNf {so va le mo ho pa en fp pb pe : Nat → Int32} {b q n c k : Int} (h : zSl so va le mo ho pa en fp pb pe b q n c) (k0 : 0 ≤ k) (k1 : k < n) : (0 ≤ zg so (b + k) ∧ zg so (b + k) ≤ 11) ∧ (k < zg en (b + k) ∧ zg en (b + k) ≤ n) ∧ (zg so (b + k) ≤ 4 → zg en (b + k) = k + 1) ∧ (6 ≤ zg so (b + k) → k + 1 < zg en (b + k)) ∧ (7 ≤ zg so (b + k) → zg en (b + (k + 1)) = zg en (b + k)) ∧ (zg so (b + k) ≠ 0 → 0 ≤ zg va (b + k) ∧ zg va (b + k) ≤ 9) ∧ (zg so (b + k) = 8 → 1 ≤ zg va (b + k)) ∧ (∀ j : Int, k < j → j < zg en (b + k) → zg en (b + j) ≤ zg en (b + k)) := by
  obtain ⟨p, _, ⟨d1, d2, _, _, _, _, d7, _, d9, _, d8, _⟩, ⟨_, _, e3, e4, e5⟩, f1, f2, f3, _⟩ := zS_nd h k0 k1
  exact ⟨⟨d1, d2⟩, ⟨e3, e4⟩, f1, f2, f3, fun z => ⟨d7, d9 z⟩, fun z => (d8 z).1, fun j j0 j1 => (e5 j j0 j1).2⟩
theorem zNt_c {so va le mo ho pa en fp pb pe : Nat → Int32} {b q n c φ k e u r x u' r' x' : Int} {τ : zT} {G : List (Int × Int)} (h : zSl so va le mo ho pa en fp pb pe b q n c) (hG : zCk so va b G k) (k0 : 0 ≤ k) (k1 : k < n) (h1 : u' ≤ u) (h2 : r' ≤ r) (h3 : x' ≤ x) : zNt so va en b n φ k (zsh so b φ τ G k e u r x) (zsh so b φ τ G (zg en (b + k)) e u' r' x') := by
  refine ⟨⟨k0, k1⟩, hG, rfl, ?_, ?_, ?_⟩
  · show τ.2.1 + _ - _ + _ + _ ≤ τ.2.1 + _ - _ + _ + _; omega
  · show τ.2.2.1 + _ - _ + _ + _ ≤ τ.2.2.1 + _ - _ + _ + _; omega
  · show τ.2.2.2 + _ - _ + _ + _ ≤ τ.2.2.2 + _ - _ + _ + _; omega
theorem zRg_sh {so va le mo ho pa en fp pb pe : Nat → Int32} {b q n c φ p e u r x k : Int} {τ : zT} {G : List (Int × Int)} (h : zSl so va le mo ho pa en fp pb pe b q n c) (hτ : zRg τ) (hG : zCk so va b G k) (hk : k ≤ n) (p0 : 0 ≤ p) (hp : p ≤ e) (he : e ≤ n) (u0 : 0 ≤ u) (r0 : 0 ≤ r) (x0 : 0 ≤ x) (hx : τ.2.2.2 + zhX φ e - zhX φ p + x ≤ 1000) : zRg (zsh so b φ τ G p e u r x) := by
  obtain ⟨⟨a1, _⟩, ⟨a2, _⟩, a3, _⟩ := zh_m (φ := φ) h p0 hp he
  obtain ⟨t1, t2, t3, t4, t5⟩ := hτ
  refine ⟨?_, ?_, ?_, hx, zCk_cx h hk hG⟩
  · show 0 ≤ τ.2.1 + _ - _ + _; omega
  · show 0 ≤ τ.2.2.1 + _ - _ + _; omega
  · show 0 ≤ τ.2.2.2 + _ - _ + _; omega
def zcg (en : Nat → Int32) (b : Int) (Z : Int → Int) : Nat → Int → Int → Int
  | 0, _, _ => 0
  | m + 1, c, l => if c < l then Z c + zcg en b Z m (zg en (b + c)) l else 0
def zcz (en : Nat → Int32) (b : Int) (Z : Int → Int) (c l : Int) : Int := zcg en b Z (l - c).toNat c l
theorem zcg_fuel {en : Nat → Int32} {Z : Int → Int} {b l : Int} : ∀ {m m' : Nat} {c : Int}, (∀ k : Int, c ≤ k → k < l → k < zg en (b + k)) → l - c ≤ m → l - c ≤ m' → zcg en b Z m c l = zcg en b Z m' c l := by
  intro m; induction m with
  | zero =>
    intro m' c h h1 h2
    cases m' with
    | zero => rfl
    | succ m' => show 0 = if c < l then _ else 0; rw [if_neg (by omega)]
  | succ m ih =>
    intro m' c h h1 h2
    cases m' with
    | zero => show (if c < l then _ else 0) = 0; rw [if_neg (by omega)]
    | succ m' =>
      show (if c < l then _ else 0) = if c < l then _ else 0
      by_cases e : c < l
      · have := h c (Int.le_refl _) e
        rw [if_pos e, if_pos e, ih (m' := m') (fun k k0 k1 => h k (by omega) k1) (by omega) (by omega)]
      · rw [if_neg e, if_neg e]
theorem zcz_end {en : Nat → Int32} {Z : Int → Int} {b c l : Int} (h : l ≤ c) : zcz en b Z c l = 0 := by
  unfold zcz; rw [show (l - c).toNat = 0 from by omega]; rfl
theorem zcz_step {en : Nat → Int32} {Z : Int → Int} {b c l : Int} (h : ∀ k : Int, c ≤ k → k < l → k < zg en (b + k)) (hc : c < l) : zcz en b Z c l = Z c + zcz en b Z (zg en (b + c)) l := by
  unfold zcz
  have e : (l - c).toNat = (l - c - 1).toNat + 1 := by omega
  have := h c (Int.le_refl _) hc
  rw [e]
  show (if c < l then _ else 0) = _
  rw [if_pos hc, zcg_fuel (m := (l - c - 1).toNat) (m' := (l - zg en (b + c)).toNat) (fun k k0 k1 => h k (by omega) k1) (by omega) (by omega)]
theorem zcg_sz {en sz : Nat → Int32} {b : Int} : ∀ {m : Nat} {c l : Int}, zcg en b (fun c => zg sz (b + c)) m c l = zcs en sz b m c l := by
  intro m; induction m with
  | zero => intro c l; rfl
  | succ m ih => intro c l; show (if c < l then _ else 0) = if c < l then _ else 0; rw [ih]
theorem zcz_nf {en : Nat → Int32} {b l : Int} : ∀ {m : Nat} {c : Int}, l - c ≤ m → c ≤ l → (∀ j : Int, c ≤ j → j < l → j < zg en (b + j) ∧ zg en (b + j) ≤ l) → zcz en b (fun c => zg en (b + c) - c) c l = l - c := by
  intro m; induction m with
  | zero => intro c h1 h2 h; rw [zcz_end (by omega)]; omega
  | succ m ih =>
    intro c h1 h2 h
    by_cases e : c < l
    · have := h c (Int.le_refl _) e
      rw [zcz_step (fun k k0 k1 => (h k k0 k1).1) e, ih (by omega) (by omega) (fun j j0 j1 => h j (by omega) j1)]
      omega
    · rw [zcz_end (by omega)]; omega
def zZ (so le mo en : Nat → Int32) (b n φ : Int) (Z : Int → Int) : Prop := ∀ k : Int, 0 ≤ k → k < n → 1 ≤ Z k ∧ (Z k < 20000 → ((φ = 0 ∨ zg so (b + k) ≠ 7) → 1 + zcz en b Z (k + 1) (zg en (b + k)) ≤ Z k) ∧ (φ = 1 → zg so (b + k) = 7 → 1 + zby so le mo (b + k) * Z (k + 1) ≤ Z k))
theorem zZ_n {so va le mo ho pa en fp pb pe : Nat → Int32} {b q n c : Int} (h : zSl so va le mo ho pa en fp pb pe b q n c) : zZ so le mo en b n 0 (fun c => zg en (b + c) - c) := by
  intro k k0 k1
  obtain ⟨_, ⟨e1, e2⟩, _, _, _, _, _, e3⟩ := zNf h k0 k1
  refine ⟨by show 1 ≤ zg en (b + k) - k; omega, fun _ => ⟨fun _ => ?_, fun e => absurd e (by decide)⟩⟩
  rw [zcz_nf (m := (zg en (b + k) - (k + 1)).toNat) (by omega) (by omega) (fun j j0 j1 => ⟨(zNf h (show 0 ≤ j by omega) (by omega)).2.1.1, e3 j (by omega) j1⟩)]
  show 1 + (zg en (b + k) - (k + 1)) ≤ zg en (b + k) - k; omega
theorem zby_1 {so le mo : Nat → Int32} {g : Int} (h : zg so g ≠ 7) : zby so le mo g = 1 := if_neg h
theorem zZ_f {so va le mo ho pa en fp pb pe sz ps : Nat → Int32} {b q n c : Int} (h : zSl so va le mo ho pa en fp pb pe b q n c) (hM : zMs so le mo en sz ps b 0 n) : zZ so le mo en b n 1 (fun c => zg sz (b + c)) := by
  intro k k0 k1
  obtain ⟨m1, _, _, _, m5, _⟩ := hM k k0 k1 k0
  obtain ⟨_, ⟨e1, e2⟩, _, e6, e7, _, _, _⟩ := zNf h k0 k1
  refine ⟨m1, fun hs => ?_⟩
  have m5 := m5 hs
  have ec : zct en sz b (k + 1) (zg en (b + k)) = zcz en b (fun c => zg sz (b + c)) (k + 1) (zg en (b + k)) := zcg_sz.symm
  rw [ec] at m5
  refine ⟨fun z => ?_, fun _ z => ?_⟩
  · rcases z with z | z
    · exact absurd z (by decide)
    · rw [zby_1 z] at m5; show 1 + _ ≤ zg sz (b + k); omega
  · have a := e6 (by omega)
    have k1n : k + 1 < n := by omega
    have a2 := e7 (by omega)
    rw [zcz_step (fun j j0 j1 => (zNf h (show 0 ≤ j by omega) (by omega)).2.1.1) a, zcz_end (by omega), Int.add_zero] at m5
    exact m5
theorem zZ_1 {so va le mo ho pa en fp pb pe : Nat → Int32} {b q n c φ k : Int} {Z : Int → Int} (h : zSl so va le mo ho pa en fp pb pe b q n c) (hZ : zZ so le mo en b n φ Z) (k0 : 0 ≤ k) (k1 : k < n) (h7 : 7 ≤ zg so (b + k)) (hz : Z k < 20000) (hφ : φ = 0 ∨ zg so (b + k) ≠ 7) : 1 + Z (k + 1) ≤ Z k ∧ 1 ≤ Z (k + 1) ∧ k + 1 < n := by
  obtain ⟨_, ⟨e1, e2⟩, _, e6, e7, _, _, _⟩ := zNf h k0 k1
  have a := e6 (by omega)
  have a2 := e7 (by omega)
  have q := ((hZ k k0 k1).2 hz).1 hφ
  rw [zcz_step (fun j j0 j1 => (zNf h (show 0 ≤ j by omega) (by omega)).2.1.1) a, zcz_end (by omega)] at q
  exact ⟨by omega, (hZ (k + 1) (by omega) (by omega)).1, by omega⟩
def zND (so va le mo ho pa en fp pb pe ac aA aB la ta tA tB : Nat → Int32) (Z : Int → Int) (bs q n c φ N lb m : Int) (C Λ : Int → zT) (σ σ0 τ : zT) (k B1 B2 : Int) : Prop := ((φ = 0 ∨ φ = 1) ∧ (φ = 1 → zKb so bs n)) ∧ zSl so va le mo ho pa en fp pb pe bs q n c ∧ zZ so le mo en bs n φ Z ∧ Z k < 20000 ∧ zNt so va en bs n φ k σ0 τ ∧ zge φ σ σ0 ∧ zRg σ0 ∧ zRg τ ∧ zW so va en ac aA aB la ta tA tB Z bs n φ N lb m C Λ σ τ (-1) (-1) B1 B2
def zWp (so va en ac aA aB la ta tA tB : Nat → Int32) (Z : Int → Int) (bs n φ N lb m : Int) (C : Int → zT) (σ : zT) (k B1 B2 : Int) : Prop := ∃ (Λ : Int → zT) (B : Int), zW so va en ac aA aB la ta tA tB Z bs n φ N lb m C Λ σ σ (-1) (-1) (B1 + 12 * Z k - 5) B ∧ (φ = 1 → B ≤ B2 + 4 * Z k - 3)
theorem zW_o {so va en ac aA aB la ta tA tB : Nat → Int32} {Z : Int → Int} {bs n φ N lb m : Int} {C Λ : Int → zT} {σ ρ : zT} {k B1 B2 B1' B2' : Int} (h : zW so va en ac aA aB la ta tA tB Z bs n φ N lb m C Λ σ ρ (-1) (-1) B1' B2') (hg : zge φ σ ρ) (hB1 : B1' ≤ B1 + 12 * Z k - 5) (hB2 : φ = 1 → B2' ≤ B2 + 4 * Z k - 3) : zWp so va en ac aA aB la ta tA tB Z bs n φ N lb m C σ k B1 B2 := by
  obtain ⟨h1, h2, h3, h4, h5, h6⟩ := h
  exact ⟨Λ, B2', ⟨h1, h2, h3, zK_ge h4 hg, by omega, h6⟩, hB2⟩
theorem zge_sh {so va en : Nat → Int32} {bs n φ k p e u r x : Int} {σ0 τ : zT} (hN : zNt so va en bs n φ k σ0 τ) (he : e = zg en (bs + k)) (h : φ = 0 → u ≤ zhL so bs φ p - zhL so bs φ k ∧ r ≤ zhC so bs φ p - zhC so bs φ k ∧ x ≤ zhX φ p - zhX φ k) : zge φ σ0 (zsh so bs φ τ σ0.1 p e u r x) := by
  obtain ⟨_, _, _, n1, n2, n3⟩ := hN
  subst he
  refine ⟨rfl, fun z => ?_⟩
  obtain ⟨a, b, c⟩ := h z
  refine ⟨?_, ?_, ?_⟩
  · show τ.2.1 + _ - _ + _ ≤ σ0.2.1; omega
  · show τ.2.2.1 + _ - _ + _ ≤ σ0.2.2.1; omega
  · show τ.2.2.2 + _ - _ + _ ≤ σ0.2.2.2; omega
theorem zsh_e {so : Nat → Int32} {b φ e : Int} {τ : zT} : zsh so b φ τ τ.1 e e 0 0 0 = τ := by
  unfold zsh
  rw [show τ.2.1 + zhL so b φ e - zhL so b φ e + 0 = τ.2.1 by omega, show τ.2.2.1 + zhC so b φ e - zhC so b φ e + 0 = τ.2.2.1 by omega, show τ.2.2.2 + zhX φ e - zhX φ e + 0 = τ.2.2.2 by omega]
theorem zc1_n {Z : Int → Int} {a : Int} : zc1 Z 100 a = 12 * Z a - 4 := if_pos rfl
theorem zc1_o {Z : Int → Int} {o a : Int} (h : o ≠ 100) : zc1 Z o a = 1 := if_neg h
theorem zc2_n {Z : Int → Int} {a : Int} : zc2 Z 100 a = 4 * Z a - 3 := if_pos rfl
theorem zc2_l {Z : Int → Int} {a : Int} : zc2 Z 101 a = 0 := rfl
theorem zc2_o {Z : Int → Int} {o a : Int} (h : o ≤ 21) : zc2 Z o a ≤ (if o = 6 ∨ o = 7 then 2 else 1) := by
  unfold zc2; rw [if_neg (by omega), if_neg (by omega)]; unfold zh; rw [if_neg (by decide)]; exact Int.le_refl _
theorem zr0 {a b : Int} (h : a ≤ b) : a ≤ b + 0 := by omega
theorem zN_l {so va le mo ho pa en fp pb pe ac aA aB la ta tA tB taω tAω tBω : Nat → Int32} {Z : Int → Int} {bs q n c φ N lb m' : Int} {C Λ : Int → zT} {σ σ0 τ : zT} {k B1 B2 : Int} {i o a b : Int32} (h : zND so va le mo ho pa en fp pb pe ac aA aB la ta tA tB Z bs q n c φ N lb i.toInt C Λ σ σ0 τ k B1 B2) (e1 : taω = upd ta i.toNatClampNeg o) (e2 : tAω = upd tA i.toNatClampNeg a) (e3 : tBω = upd tB i.toNatClampNeg b) (hoω : (o.toInt = 0 ∧ zg so (bs + k) ≤ 2) ∨ o.toInt = 1 ∨ (o.toInt = 2 ∧ zg so (bs + k) = 4)) (ha : a.toInt = k) (hs : zg so (bs + k) ≤ 4) (hm : m' = i.toInt + 1) : zWp so va en ac aA aB la taω tAω tBω Z bs n φ N lb m' C σ k B1 B2 := by
  obtain ⟨⟨hφ, hb⟩, hSl, hZ, hz, hN, hge, r0, rt, hW⟩ := h
  have hN2 := hN
  obtain ⟨⟨k0, k1⟩, ck, g1, n1, n2, n3⟩ := hN2
  obtain ⟨_, ⟨f1, f2⟩, _, _, _, fv, _, _⟩ := zNf hSl k0 k1
  obtain ⟨⟨m1, _⟩, ⟨m2, _⟩, m3, _⟩ := zh_m (φ := φ) hSl k0 (show k ≤ zg en (bs + k) by omega) f2
  have n22 := hSl.2.1
  have z1 := (hZ k k0 k1).1
  have hn : φ = 0 → τ.2.1 ≤ σ0.2.1 + 0 ∧ τ.2.2.1 ≤ σ0.2.2.1 + 0 ∧ τ.2.2.2 ≤ 1000 := fun _ => ⟨by omega, by omega, rt.2.2.2.1⟩
  have hE : zE so va en bs n φ lb Λ o.toInt a.toInt b.toInt σ0 τ := by
    rw [ha]
    rcases hoω with ⟨e, eω⟩ | e | ⟨e, eω⟩ <;> rw [e]
    · exact zO_0 ⟨k0, by omega⟩ g1 hn ⟨k0, k1⟩ eω
    · exact zO_1 ⟨k0, by omega⟩ g1 hn ⟨k0, k1⟩
    · refine zO_2 ⟨k0, by omega⟩ g1 hn ⟨k0, k1⟩ ⟨?_, fv (by omega)⟩
      rcases hφ with p | p
      · exact p
      · exact absurd eω (hb p k k0 k1).1
  have c1 : zc1 Z o.toInt a.toInt = 1 := zc1_o (by omega)
  have c2 := zc2_o (Z := Z) (a := a.toInt) (show o.toInt ≤ 21 by omega)
  rw [if_neg (by omega)] at c2
  exact zW_o (zW_p hW e1 e2 e3 hE r0 (fun l l0 _ z => by omega) hm (Int.le_refl _) (Int.le_refl _)) hge (by omega) (fun _ => by omega)
theorem zN_c {so va le mo ho pa en fp pb pe ac aA aB la ta tA tB taω tAω tBω : Nat → Int32} {Z : Int → Int} {bs q n c φ N lb m' : Int} {C Λ : Int → zT} {σ σ0 τ : zT} {k B1 B2 : Int} {i o a b : Int32} (h : zND so va le mo ho pa en fp pb pe ac aA aB la ta tA tB Z bs q n c φ N lb i.toInt C Λ σ σ0 τ k B1 B2) (e1 : taω = upd ta i.toNatClampNeg o) (e2 : tAω = upd tA i.toNatClampNeg a) (e3 : tBω = upd tB i.toNatClampNeg b) (hoω : o.toInt = 100) (ha : a.toInt = k + 1) (hs : zg so (bs + k) = 11) (hm : m' = i.toInt + 1) : zWp so va en ac aA aB la taω tAω tBω Z bs n φ N lb m' C σ k B1 B2 := by
  obtain ⟨⟨hφ, hb⟩, hSl, hZ, hz, hN, hge, r0, rt, hW⟩ := h
  have hN2 := hN
  obtain ⟨⟨k0, k1⟩, ck, g1, n1, n2, n3⟩ := hN2
  obtain ⟨_, ⟨f1, f2⟩, _, f6, f7, fv, _, _⟩ := zNf hSl k0 k1
  have f6 := f6 (by omega)
  have f7 := f7 (by omega)
  obtain ⟨⟨m1, _⟩, ⟨m2, _⟩, m3, _⟩ := zh_m (φ := φ) hSl k0 (show k ≤ k + 1 by omega) (by omega)
  obtain ⟨⟨m4, _⟩, ⟨m5, _⟩, m6, _⟩ := zh_m (φ := φ) hSl (show 0 ≤ k + 1 by omega) (show k + 1 ≤ zg en (bs + k) by omega) (by omega)
  obtain ⟨z1, z2, z3⟩ := zZ_1 hSl hZ k0 k1 (by omega) hz (Or.inr (by omega))
  have hE : zE so va en bs n φ lb Λ o.toInt a.toInt b.toInt σ0 τ := by
    rw [ha, hoω]
    refine Or.inl ⟨rfl, ⟨by omega, z3⟩, zCk_m (by omega) ck, g1, ?_, ?_, ?_⟩
    · rw [f7]; omega
    · rw [f7]; omega
    · rw [f7]; omega
  have c1 : zc1 Z o.toInt a.toInt = 12 * Z (k + 1) - 4 := by rw [hoω, ha]; exact zc1_n
  have c2 : zc2 Z o.toInt a.toInt = 4 * Z (k + 1) - 3 := by rw [hoω, ha]; exact zc2_n
  exact zW_o (zW_p hW e1 e2 e3 hE r0 (fun l l0 _ z => by omega) hm (Int.le_refl _) (Int.le_refl _)) hge (by omega) (fun _ => by omega)
def zqf (φ : Int) : Int := if φ = 0 then 1 else 0
theorem zqf_b {φ : Int} : 0 ≤ zqf φ ∧ zqf φ ≤ 1 ∧ (φ = 0 → zqf φ = 1) := by unfold zqf; split <;> omega
theorem zh_q {so va le mo ho pa en fp pb pe : Nat → Int32} {b q n c φ k : Int} (h : zSl so va le mo ho pa en fp pb pe b q n c) (k0 : 0 ≤ k) (k1 : k < n) (hφ : φ = 0 ∨ φ = 1) : (zg so (b + k) = 7 → zhL so b φ k + zqf φ ≤ zhL so b φ (k + 1)) ∧ (zg so (b + k) = 8 → zhC so b φ k + 3 * zqf φ ≤ zhC so b φ (k + 1)) ∧ zhX φ (k + 1) = zhX φ k + 4 * zqf φ ∧ zhL so b φ k ≤ zhL so b φ (k + 1) ∧ zhC so b φ k ≤ zhC so b φ (k + 1) := by
  obtain ⟨⟨m1, _⟩, ⟨m2, _⟩, m3, _⟩ := zh_m (φ := φ) h k0 (show k ≤ k + 1 by omega) (by omega)
  rcases hφ with e | e
  · have q1 : zqf φ = 1 := if_pos e
    obtain ⟨a1, a2, a3⟩ := zh_1 (so := so) (b := b) k0 e
    exact ⟨fun z => by have := a1 z; omega, fun z => by have := a2 z; omega, by omega, m1, m2⟩
  · have q1 : zqf φ = 0 := if_neg (by omega)
    have e1 : zhX φ (k + 1) = 0 := if_neg (by omega)
    have e2 : zhX φ k = 0 := if_neg (by omega)
    exact ⟨fun z => by omega, fun z => by omega, by omega, m1, m2⟩
theorem zN_1 {so va le mo ho pa en fp pb pe ac aA aB la ta tA tB : Nat → Int32} {Z : Int → Int} {bs q n c φ N lb m : Int} {C Λ : Int → zT} {σ σ0 τ : zT} {k B1 B2 : Int} (h : zND so va le mo ho pa en fp pb pe ac aA aB la ta tA tB Z bs q n c φ N lb m C Λ σ σ0 τ k B1 B2) (h7 : 7 ≤ zg so (bs + k)) : (0 ≤ k ∧ k + 1 < n ∧ n ≤ 220) ∧ zg en (bs + (k + 1)) = zg en (bs + k) ∧ k + 1 < zg en (bs + k) ∧ zg en (bs + k) ≤ n ∧ (zhL so bs φ (k + 1) ≤ zhL so bs φ (zg en (bs + k)) ∧ zhL so bs φ (zg en (bs + k)) ≤ zhL so bs φ (k + 1) + 50) ∧ (zhC so bs φ (k + 1) ≤ zhC so bs φ (zg en (bs + k)) ∧ zhC so bs φ (zg en (bs + k)) ≤ zhC so bs φ (k + 1) + 27) ∧ zhX φ (k + 1) ≤ zhX φ (zg en (bs + k)) ∧ (0 ≤ τ.2.1 ∧ 0 ≤ τ.2.2.1 ∧ 0 ≤ τ.2.2.2) ∧ σ0.2.2.2 ≤ 1000 := by
  obtain ⟨⟨hφ, hb⟩, hSl, hZ, hz, hN, hge, r0, rt, hW⟩ := h
  obtain ⟨⟨k0, k1⟩, ck, g1, n1, n2, n3⟩ := hN
  obtain ⟨_, ⟨f1, f2⟩, _, f6, f7, fv, _, _⟩ := zNf hSl k0 k1
  have f6 := f6 (by omega)
  have f7 := f7 (by omega)
  obtain ⟨m4, m5, m6, _⟩ := zh_m (φ := φ) hSl (show 0 ≤ k + 1 by omega) (show k + 1 ≤ zg en (bs + k) by omega) (by omega)
  exact ⟨⟨k0, by omega, hSl.2.1⟩, f7, f6, f2, m4, m5, m6, ⟨rt.1, rt.2.1, rt.2.2.1⟩, r0.2.2.2.1⟩
theorem zN_k {so va le mo ho pa en fp pb pe ac aA aB la ta tA tB ta1 tA1 tB1 ta2 tA2 tB2 ta3 tA3 tB3 : Nat → Int32} {Z : Int → Int} {bs q n c φ N lb m' : Int} {C Λ : Int → zT} {σ σ0 τ : zT} {k B1 B2 : Int} {i i1 i2 o1 a1 b1 o2 a2 b2 o3 a3 b3 : Int32} (h : zND so va le mo ho pa en fp pb pe ac aA aB la ta tA tB Z bs q n c φ N lb i.toInt C Λ σ σ0 τ k B1 B2) (e1 : ta1 = upd ta i.toNatClampNeg o1) (e2 : tA1 = upd tA i.toNatClampNeg a1) (e3 : tB1 = upd tB i.toNatClampNeg b1) (e4 : ta2 = upd ta1 i1.toNatClampNeg o2) (e5 : tA2 = upd tA1 i1.toNatClampNeg a2) (e6 : tB2 = upd tB1 i1.toNatClampNeg b2) (e7 : ta3 = upd ta2 i2.toNatClampNeg o3) (e8 : tA3 = upd tA2 i2.toNatClampNeg a3) (e9 : tB3 = upd tB2 i2.toNatClampNeg b3) (hs : zg so (bs + k) = 8) (ho1 : o1.toInt = 7) (ho2 : o2.toInt = 100) (ho3 : o3.toInt = 6) (ha1 : a1.toInt = zg va (bs + k)) (ha2 : a2.toInt = k + 1) (ha3 : a3.toInt = zg va (bs + k)) (hi1 : i1.toInt = i.toInt + 1) (hi2 : i2.toInt = i1.toInt + 1) (hm : m' = i2.toInt + 1) : zWp so va en ac aA aB la ta3 tA3 tB3 Z bs n φ N lb m' C σ k B1 B2 := by
  obtain ⟨⟨x0, x1, x2⟩, f7, f6, f2, m4, m5, m6, t0, s1⟩ := zN_1 h (by omega)
  obtain ⟨⟨hφ, hb⟩, hSl, hZ, hz, hN, hge, r0, rt, hW⟩ := h
  have hN2 := hN
  obtain ⟨⟨k0, k1⟩, ck, g1, n1, n2, n3⟩ := hN2
  obtain ⟨_, _, _, _, _, fv, fc, _⟩ := zNf hSl k0 k1
  have fv := fv (by omega)
  have fc := fc hs
  obtain ⟨q1, q2, q3, q4, q5⟩ := zh_q (φ := φ) hSl k0 k1 hφ
  have q2 := q2 hs
  obtain ⟨u0, u1, u2⟩ := @zqf_b φ
  obtain ⟨z1, z2, z3⟩ := zZ_1 hSl hZ k0 k1 (by omega) hz (Or.inr (by omega))
  have ck1 : zCk so va bs ((0, zg va (bs + k)) :: σ0.1) (k + 1) := ⟨Or.inl ⟨rfl, k, k0, by omega, hs, rfl⟩, zCk_m (by omega) ck⟩
  have p1 := zW_p (ρ' := zsh so bs φ τ ((0, zg va (bs + k)) :: σ0.1) (zg en (bs + k)) (zg en (bs + k)) 0 (2 * zqf φ) (zqf φ)) hW e1 e2 e3 (by
    rw [ho1, ha1]
    refine zO_7 ⟨by omega, by omega⟩ g1 (fun e => ⟨?_, ?_, ?_⟩) ⟨by omega, by omega⟩ ⟨_, rfl⟩
    · show τ.2.1 ≤ τ.2.1 + _ - _ + 0 + 0; omega
    · have := u2 e; show τ.2.2.1 ≤ τ.2.2.1 + _ - _ + 2 * zqf φ + (-2); omega
    · have := u2 e; show τ.2.2.2 ≤ τ.2.2.2 + _ - _ + zqf φ - 1; omega) (zRg_sh hSl rt ck1 (by omega) (by omega) (Int.le_refl _) f2 (by omega) (by omega) (by omega) (by omega)) (d1' := -1) (d2' := -1) (fun l l0 _ z => by omega) (m' := i1.toInt) (by omega) (Int.le_refl _) (Int.le_refl _)
  have p2 := zW_p (ρ' := zsh so bs φ τ ((0, zg va (bs + k)) :: σ0.1) (k + 1) (zg en (bs + k)) 0 (2 * zqf φ) (zqf φ)) p1 e4 e5 e6 (by
    rw [ho2, ha2]
    have := zNt_c (φ := φ) (τ := τ) (e := zg en (bs + k)) (u := 0) (r := 2 * zqf φ) (x := zqf φ) (u' := 0) (r' := 2 * zqf φ) (x' := zqf φ) hSl ck1 (by omega) x1 (Int.le_refl _) (Int.le_refl _) (Int.le_refl _)
    rw [f7] at this
    exact Or.inl ⟨rfl, this⟩) (zRg_sh hSl rt ck1 (by omega) (by omega) (by omega) f2 (by omega) (by omega) (by omega) (by omega)) (d1' := -1) (d2' := -1) (fun l l0 _ z => by omega) (m' := i2.toInt) (by omega) (Int.le_refl _) (Int.le_refl _)
  have p3 := zW_p (ρ' := σ0) p2 e7 e8 e9 (by
    rw [ho3, ha3]
    refine zO_6 ⟨by omega, by omega⟩ rfl (fun e => ⟨?_, ?_, ?_⟩) ⟨by omega, by omega⟩ (zCk_cp hSl k0 k1 hs ck)
    · show τ.2.1 + _ - _ + 0 ≤ σ0.2.1 + 0; omega
    · have := u2 e; show τ.2.2.1 + _ - _ + 2 * zqf φ ≤ σ0.2.2.1 + (-1); omega
    · have := u2 e; show τ.2.2.2 + _ - _ + zqf φ ≤ σ0.2.2.2 - 1; omega) r0 (d1' := -1) (d2' := -1) (fun l l0 _ z => by omega) hm (Int.le_refl _) (Int.le_refl _)
  have c1 : zc1 Z o1.toInt a1.toInt = 1 := zc1_o (by omega)
  have c3 : zc1 Z o3.toInt a3.toInt = 1 := zc1_o (by omega)
  have c2 : zc1 Z o2.toInt a2.toInt = 12 * Z (k + 1) - 4 := by rw [ho2, ha2]; exact zc1_n
  have d2 : zc2 Z o2.toInt a2.toInt = 4 * Z (k + 1) - 3 := by rw [ho2, ha2]; exact zc2_n
  have d1 : zc2 Z o1.toInt a1.toInt = 2 := by rw [ho1]; rfl
  have d3 : zc2 Z o3.toInt a3.toInt = 2 := by rw [ho3]; rfl
  exact zW_o p3 hge (by omega) (fun _ => by omega)
theorem zN_t {so va le mo ho pa en fp pb pe ac aA aB la ta tA tB ta1 tA1 tB1 ta2 tA2 tB2 ta3 tA3 tB3 : Nat → Int32} {Z : Int → Int} {bs q n c φ N lb m' : Int} {C Λ : Int → zT} {σ σ0 τ : zT} {k B1 B2 : Int} {i i1 i2 o1 a1 b1 o2 a2 b2 o3 a3 b3 : Int32} (h : zND so va le mo ho pa en fp pb pe ac aA aB la ta tA tB Z bs q n c φ N lb i.toInt C Λ σ σ0 τ k B1 B2) (e1 : ta1 = upd ta i.toNatClampNeg o1) (e2 : tA1 = upd tA i.toNatClampNeg a1) (e3 : tB1 = upd tB i.toNatClampNeg b1) (e4 : ta2 = upd ta1 i1.toNatClampNeg o2) (e5 : tA2 = upd tA1 i1.toNatClampNeg a2) (e6 : tB2 = upd tB1 i1.toNatClampNeg b2) (e7 : ta3 = upd ta2 i2.toNatClampNeg o3) (e8 : tA3 = upd tA2 i2.toNatClampNeg a3) (e9 : tB3 = upd tB2 i2.toNatClampNeg b3) (hs : zg so (bs + k) = 10) (ho1 : o1.toInt = 12) (ho2 : o2.toInt = 100) (ho3 : o3.toInt = 11) (ha1 : a1.toInt = k) (ha2 : a2.toInt = k + 1) (ha3 : a3.toInt = k) (hi1 : i1.toInt = i.toInt + 1) (hi2 : i2.toInt = i1.toInt + 1) (hm : m' = i2.toInt + 1) : zWp so va en ac aA aB la ta3 tA3 tB3 Z bs n φ N lb m' C σ k B1 B2 := by
  obtain ⟨⟨x0, x1, x2⟩, f7, f6, f2, m4, m5, m6, t0, s1⟩ := zN_1 h (by omega)
  obtain ⟨⟨hφ, hb⟩, hSl, hZ, hz, hN, hge, r0, rt, hW⟩ := h
  have hN2 := hN
  obtain ⟨⟨k0, k1⟩, ck, g1, n1, n2, n3⟩ := hN2
  have p0 : φ = 0 := by
    rcases hφ with e | e
    · exact e
    · exact absurd hs (hb e k k0 k1).2.2
  obtain ⟨q1, q2, q3, q4, q5⟩ := zh_q (φ := φ) hSl k0 k1 hφ
  obtain ⟨u0, u1, u2⟩ := @zqf_b φ
  have u2 := u2 p0
  obtain ⟨z1, z2, z3⟩ := zZ_1 hSl hZ k0 k1 (by omega) hz (Or.inr (by omega))
  have ck1 : zCk so va bs ((1, k) :: σ0.1) (k + 1) := ⟨Or.inr ⟨Or.inl rfl, k0, by omega⟩, zCk_m (by omega) ck⟩
  have p1 := zW_p (ρ' := zsh so bs φ τ ((1, k) :: σ0.1) (zg en (bs + k)) (zg en (bs + k)) 0 0 1) hW e1 e2 e3 (by
    rw [ho1, ha1]
    refine zO_12 ⟨by omega, by omega⟩ g1 (fun e => ⟨?_, ?_, ?_⟩) p0 ⟨k0, k1⟩ ⟨_, rfl⟩
    · show τ.2.1 ≤ τ.2.1 + _ - _ + 0 + 0; omega
    · show τ.2.2.1 ≤ τ.2.2.1 + _ - _ + 0 + 0; omega
    · show τ.2.2.2 ≤ τ.2.2.2 + _ - _ + 1 - 1; omega) (zRg_sh hSl rt ck1 (by omega) (by omega) (Int.le_refl _) f2 (by omega) (by omega) (by omega) (by omega)) (d1' := -1) (d2' := -1) (fun l l0 _ z => by omega) (m' := i1.toInt) (by omega) (Int.le_refl _) (Int.le_refl _)
  have p2 := zW_p (ρ' := zsh so bs φ τ ((1, k) :: σ0.1) (k + 1) (zg en (bs + k)) 0 0 1) p1 e4 e5 e6 (by
    rw [ho2, ha2]
    have := zNt_c (φ := φ) (τ := τ) (e := zg en (bs + k)) (u := 0) (r := 0) (x := 1) (u' := 0) (r' := 0) (x' := 1) hSl ck1 (by omega) x1 (Int.le_refl _) (Int.le_refl _) (Int.le_refl _)
    rw [f7] at this
    exact Or.inl ⟨rfl, this⟩) (zRg_sh hSl rt ck1 (by omega) (by omega) (by omega) f2 (by omega) (by omega) (by omega) (by omega)) (d1' := -1) (d2' := -1) (fun l l0 _ z => by omega) (m' := i2.toInt) (by omega) (Int.le_refl _) (Int.le_refl _)
  have p3 := zW_p (ρ' := σ0) p2 e7 e8 e9 (by
    rw [ho3, ha3]
    refine zO_11 ⟨by omega, by omega⟩ rfl (fun e => ⟨?_, ?_, ?_⟩) p0 ⟨k0, k1⟩ (zCk_nd hSl k1 (Or.inl rfl) k0 ck)
    · show τ.2.1 + _ - _ + 0 ≤ σ0.2.1 + 52; omega
    · show τ.2.2.1 + _ - _ + 0 ≤ σ0.2.2.1 + 32; omega
    · show τ.2.2.2 + _ - _ + 1 ≤ 1000; omega) r0 (d1' := -1) (d2' := -1) (fun l l0 _ z => by omega) hm (Int.le_refl _) (Int.le_refl _)
  have c1 : zc1 Z o1.toInt a1.toInt = 1 := zc1_o (by omega)
  have c3 : zc1 Z o3.toInt a3.toInt = 1 := zc1_o (by omega)
  have c2 : zc1 Z o2.toInt a2.toInt = 12 * Z (k + 1) - 4 := by rw [ho2, ha2]; exact zc1_n
  exact zW_o p3 hge (by omega) (fun e => by omega)
theorem zN_s {so va le mo ho pa en fp pb pe ac aA aB la ta tA tB ta0 tA0 tB0 ta1 tA1 tB1 ta2 tA2 tB2 ta3 tA3 tB3 : Nat → Int32} {Z : Int → Int} {bs q n c φ N lb lb' m' : Int} {C Λ : Int → zT} {σ σ0 τ : zT} {k B1 B2 : Int} {i i0 i1 i2 o0 a0 b0 o1 a1 b1 o2 a2 b2 o3 a3 b3 : Int32} (h : zND so va le mo ho pa en fp pb pe ac aA aB la ta tA tB Z bs q n c φ N lb i0.toInt C Λ σ σ0 τ k B1 B2) (w1 : ta0 = upd ta i0.toNatClampNeg o0) (w2 : tA0 = upd tA i0.toNatClampNeg a0) (w3 : tB0 = upd tB i0.toNatClampNeg b0) (e1 : ta1 = upd ta0 i.toNatClampNeg o1) (e2 : tA1 = upd tA0 i.toNatClampNeg a1) (e3 : tB1 = upd tB0 i.toNatClampNeg b1) (e4 : ta2 = upd ta1 i1.toNatClampNeg o2) (e5 : tA2 = upd tA1 i1.toNatClampNeg a2) (e6 : tB2 = upd tB1 i1.toNatClampNeg b2) (e7 : ta3 = upd ta2 i2.toNatClampNeg o3) (e8 : tA3 = upd tA2 i2.toNatClampNeg a3) (e9 : tB3 = upd tB2 i2.toNatClampNeg b3) (hs : zg so (bs + k) = 9) (ho0 : o0.toInt = 101) (ho1 : o1.toInt = 14 ∨ o1.toInt = 16 ∨ o1.toInt = 18 ∨ o1.toInt = 20) (ho2 : o2.toInt = 100) (ho3 : o3.toInt = 13 ∨ o3.toInt = 15 ∨ o3.toInt = 17) (ha0 : a0.toInt = lb) (ha1 : a1.toInt = k) (ha2 : a2.toInt = k + 1) (ha3 : a3.toInt = k) (hb3 : b3.toInt = -1 ∨ b3.toInt = lb) (hl : lb' = lb + 1) (hi0 : i.toInt = i0.toInt + 1) (hi1 : i1.toInt = i.toInt + 1) (hi2 : i2.toInt = i1.toInt + 1) (hm : m' = i2.toInt + 1) : zWp so va en ac aA aB la ta3 tA3 tB3 Z bs n φ N lb' m' C σ k B1 B2 := by
  obtain ⟨⟨x0, x1, x2⟩, f7, f6, f2, m4, m5, m6, t0, s1⟩ := zN_1 h (by omega)
  obtain ⟨⟨hφ, hb⟩, hSl, hZ, hz, hN, hge, r0, rt, hW⟩ := h
  have hN2 := hN
  obtain ⟨⟨k0, k1⟩, ck, g1, n1, n2, n3⟩ := hN2
  have p0 : φ = 0 := by
    rcases hφ with e | e
    · exact e
    · exact absurd hs (hb e k k0 k1).2.1
  obtain ⟨q1, q2, q3, q4, q5⟩ := zh_q (φ := φ) hSl k0 k1 hφ
  obtain ⟨u0, u1, u2⟩ := @zqf_b φ
  have u2 := u2 p0
  have lb0 : 0 ≤ lb := hW.2.1
  obtain ⟨z1, z2, z3⟩ := zZ_1 hSl hZ k0 k1 (by omega) hz (Or.inr (by omega))
  have ck1 : zCk so va bs ((2, k) :: σ0.1) (k + 1) := ⟨Or.inr ⟨Or.inr rfl, k0, by omega⟩, zCk_m (by omega) ck⟩
  have p9 := zW_n hW τ hl (d1' := lb) (d2' := -1) (fun l l0 z => by omega) (Int.le_refl _)
  have el : (fun l => if l = lb then τ else Λ l) lb = τ := if_pos rfl
  have p8 := zW_p (ρ' := τ) p9 w1 w2 w3 (by rw [ho0, ha0]; exact Or.inr (Or.inl ⟨rfl, ⟨lb0, by omega⟩, el.symm, rfl⟩)) rt (d1' := -1) (d2' := -1) (fun l l0 _ z => by omega) (m' := i.toInt) (by omega) (Int.le_refl _) (Int.le_refl _)
  have p1 := zW_p (ρ' := zsh so bs φ τ ((2, k) :: σ0.1) (zg en (bs + k)) (zg en (bs + k)) 0 0 1) p8 e1 e2 e3 (by
    have y : φ = 0 → τ.2.1 ≤ (zsh so bs φ τ ((2, k) :: σ0.1) (zg en (bs + k)) (zg en (bs + k)) 0 0 1).2.1 + 0 ∧ τ.2.2.1 ≤ (zsh so bs φ τ ((2, k) :: σ0.1) (zg en (bs + k)) (zg en (bs + k)) 0 0 1).2.2.1 + 0 ∧ τ.2.2.2 ≤ (zsh so bs φ τ ((2, k) :: σ0.1) (zg en (bs + k)) (zg en (bs + k)) 0 0 1).2.2.2 - 1 := by
      intro e; refine ⟨?_, ?_, ?_⟩
      · show τ.2.1 ≤ τ.2.1 + _ - _ + 0 + 0; omega
      · show τ.2.2.1 ≤ τ.2.2.1 + _ - _ + 0 + 0; omega
      · show τ.2.2.2 ≤ τ.2.2.2 + _ - _ + 1 - 1; omega
    rw [ha1]
    rcases ho1 with e | e | e | e <;> rw [e]
    · exact zO_14 ⟨by omega, by omega⟩ g1 y p0 ⟨k0, k1⟩ ⟨_, rfl⟩
    · exact zO_16 ⟨by omega, by omega⟩ p0 ⟨k0, k1⟩ ⟨_, rfl⟩
    · exact zO_18 ⟨by omega, by omega⟩ g1 y p0 ⟨k0, k1⟩ ⟨_, rfl⟩
    · exact zO_20 ⟨by omega, by omega⟩ p0 ⟨k0, k1⟩ ⟨_, rfl⟩) (zRg_sh hSl rt ck1 (by omega) (by omega) (Int.le_refl _) f2 (by omega) (by omega) (by omega) (by omega)) (d1' := -1) (d2' := -1) (fun l l0 _ z => by omega) (m' := i1.toInt) (by omega) (Int.le_refl _) (Int.le_refl _)
  have p2 := zW_p (ρ' := zsh so bs φ τ ((2, k) :: σ0.1) (k + 1) (zg en (bs + k)) 0 0 1) p1 e4 e5 e6 (by
    rw [ho2, ha2]
    have := zNt_c (φ := φ) (τ := τ) (e := zg en (bs + k)) (u := 0) (r := 0) (x := 1) (u' := 0) (r' := 0) (x' := 1) hSl ck1 (by omega) x1 (Int.le_refl _) (Int.le_refl _) (Int.le_refl _)
    rw [f7] at this
    exact Or.inl ⟨rfl, this⟩) (zRg_sh hSl rt ck1 (by omega) (by omega) (by omega) f2 (by omega) (by omega) (by omega) (by omega)) (d1' := -1) (d2' := -1) (fun l l0 _ z => by omega) (m' := i2.toInt) (by omega) (Int.le_refl _) (Int.le_refl _)
  have p3 := zW_p (ρ' := σ0) p2 e7 e8 e9 (by
    have y1 : (zsh so bs φ τ ((2, k) :: σ0.1) (k + 1) (zg en (bs + k)) 0 0 1).2.1 ≤ σ0.2.1 + 50 := by show τ.2.1 + _ - _ + 0 ≤ _; omega
    have y2 : (zsh so bs φ τ ((2, k) :: σ0.1) (k + 1) (zg en (bs + k)) 0 0 1).2.2.1 ≤ σ0.2.2.1 + 30 := by show τ.2.2.1 + _ - _ + 0 ≤ _; omega
    have y3 : (zsh so bs φ τ ((2, k) :: σ0.1) (k + 1) (zg en (bs + k)) 0 0 1).2.2.2 ≤ 1000 := by show τ.2.2.2 + _ - _ + 1 ≤ _; omega
    have hf : zFree (470 + k) σ0.1 ∧ zFree (690 + k) σ0.1 ∧ (b3.toInt = -1 ∨ (0 ≤ b3.toInt ∧ b3.toInt < lb' ∧ zn φ σ0.1 ((fun l => if l = lb then τ else Λ l) b3.toInt) (σ0.2.1 + 50) (σ0.2.2.1 + 30) 1000)) := by
      refine ⟨zCk_nd hSl k1 (Or.inl rfl) k0 ck, zCk_nd hSl k1 (Or.inr rfl) k0 ck, ?_⟩
      rcases hb3 with e | e
      · exact Or.inl e
      · refine Or.inr ⟨by omega, by omega, ?_⟩
        rw [e, el]; exact ⟨g1, fun _ => ⟨by omega, by omega, rt.2.2.2.1⟩⟩
    rw [ha3]
    rcases ho3 with e | e | e <;> rw [e]
    · exact zO_13 ⟨by omega, by omega⟩ rfl (fun _ => ⟨by omega, by omega, y3⟩) p0 ⟨k0, k1⟩ hf
    · exact zO_15 ⟨by omega, by omega⟩ rfl (fun _ => ⟨by omega, by omega, y3⟩) p0 ⟨k0, k1⟩ hf
    · exact zO_17 ⟨by omega, by omega⟩ rfl (fun _ => ⟨by omega, by omega, y3⟩) p0 ⟨k0, k1⟩ hf) r0 (d1' := -1) (d2' := -1) (fun l l0 _ z => by omega) hm (Int.le_refl _) (Int.le_refl _)
  have c0 : zc1 Z o0.toInt a0.toInt = 1 := zc1_o (by omega)
  have c1 : zc1 Z o1.toInt a1.toInt = 1 := zc1_o (by omega)
  have c3 : zc1 Z o3.toInt a3.toInt = 1 := zc1_o (by omega)
  have c2 : zc1 Z o2.toInt a2.toInt = 12 * Z (k + 1) - 4 := by rw [ho2, ha2]; exact zc1_n
  exact zW_o p3 hge (by omega) (fun e => by omega)
def zGc (va : Nat → Int32) (bs k : Int) (G : List (Int × Int)) : List (Int × Int) := if zg va (bs + k) = 2 then (1, k) :: G else G
def zcx (va : Nat → Int32) (bs k : Int) : Int := if zg va (bs + k) = 2 then 1 else 0
def zL4 (so va en ac aA aB la ta tA tB : Nat → Int32) (Z : Int → Int) (bs n φ N lb m : Int) (C : Int → zT) (σ σ0 τ : zT) (k B1 B2 : Int) : Prop := ∃ Λ : Int → zT, Λ lb = zsh so bs φ τ (zGc va bs k σ0.1) (zg en (bs + k)) (zg en (bs + k)) 1 0 (zcx va bs k + 1) ∧ Λ (lb + 1) = zsh so bs φ τ (zGc va bs k σ0.1) (zg en (bs + k)) (zg en (bs + k)) 0 0 (zcx va bs k) ∧ zW so va en ac aA aB la ta tA tB Z bs n φ N (lb + 2) m C Λ σ (zsh so bs φ τ (zGc va bs k σ0.1) (zg en (bs + k)) (zg en (bs + k)) 0 0 (zcx va bs k)) lb (lb + 1) (B1 + 3) (B2 + 1)
theorem zJ_f {so va le mo ho pa en fp pb pe ac aA aB la ta tA tB : Nat → Int32} {Z : Int → Int} {bs q n c φ N lb m : Int} {C Λ : Int → zT} {σ σ0 τ : zT} {k B1 B2 : Int} (h : zND so va le mo ho pa en fp pb pe ac aA aB la ta tA tB Z bs q n c φ N lb m C Λ σ σ0 τ k B1 B2) (hs : zg so (bs + k) = 7) (p0 : φ = 0) : zCk so va bs (zGc va bs k σ0.1) (k + 1) ∧ (0 ≤ zcx va bs k ∧ zcx va bs k ≤ 1) ∧ τ.2.1 + 1 ≤ σ0.2.1 ∧ τ.2.2.1 ≤ σ0.2.2.1 ∧ τ.2.2.2 + zhX φ (zg en (bs + k)) - zhX φ (k + 1) + 4 ≤ σ0.2.2.2 ∧ τ.2.2.2 + 8 ≤ 1000 ∧ 1 + Z (k + 1) ≤ Z k ∧ 1 ≤ Z (k + 1) ∧ 0 ≤ lb ∧ zCk so va bs σ0.1 k ∧ τ.1 = σ0.1 := by
  obtain ⟨⟨x0, x1, x2⟩, f7, f6, f2, m4, m5, m6, t0, s1⟩ := zN_1 h (by omega)
  obtain ⟨⟨hφ, hb⟩, hSl, hZ, hz, hN, hge, r0, rt, hW⟩ := h
  obtain ⟨⟨k0, k1⟩, ck, g1, n1, n2, n3⟩ := hN
  obtain ⟨q1, q2, q3, q4, q5⟩ := zh_q (φ := φ) hSl k0 k1 hφ
  have q1 := q1 hs
  obtain ⟨u0, u1, u2⟩ := @zqf_b φ
  have u2 := u2 p0
  obtain ⟨z1, z2, z3⟩ := zZ_1 hSl hZ k0 k1 (by omega) hz (Or.inl p0)
  have cc : 0 ≤ zcx va bs k ∧ zcx va bs k ≤ 1 := by unfold zcx; split <;> omega
  have hx : zhX φ (zg en (bs + k)) = 4 * zg en (bs + k) ∧ zhX φ (k + 1) = 4 * (k + 1) := ⟨if_pos p0, if_pos p0⟩
  refine ⟨?_, cc, by omega, by omega, by omega, by omega, z1, z2, hW.2.1, ck, g1⟩
  unfold zGc; split
  · exact ⟨Or.inr ⟨Or.inl rfl, k0, by omega⟩, zCk_m (by omega) ck⟩
  · exact zCk_m (by omega) ck
theorem zJ_0 {so va le mo ho pa en fp pb pe ac aA aB la ta tA tB : Nat → Int32} {Z : Int → Int} {bs q n c φ N lb m : Int} {C Λ : Int → zT} {σ σ0 τ : zT} {k B1 B2 : Int} (h : zND so va le mo ho pa en fp pb pe ac aA aB la ta tA tB Z bs q n c φ N lb m C Λ σ σ0 τ k B1 B2) (hs : zg so (bs + k) = 7) (p0 : φ = 0) : ∃ Λ2 : Int → zT, Λ2 lb = zsh so bs φ τ (zGc va bs k σ0.1) (zg en (bs + k)) (zg en (bs + k)) 1 0 (zcx va bs k + 1) ∧ Λ2 (lb + 1) = zsh so bs φ τ (zGc va bs k σ0.1) (zg en (bs + k)) (zg en (bs + k)) 0 0 (zcx va bs k) ∧ zW so va en ac aA aB la ta tA tB Z bs n φ N (lb + 2) m C Λ2 σ τ lb (lb + 1) (B1 + 2) B2 := by
  obtain ⟨_, _, _, _, _, _, _, _, lb0, _⟩ := zJ_f h hs p0
  obtain ⟨_, _, _, _, _, _, _, _, hW⟩ := h
  have p9 := zW_n hW (zsh so bs φ τ (zGc va bs k σ0.1) (zg en (bs + k)) (zg en (bs + k)) 1 0 (zcx va bs k + 1)) (lb' := lb + 1) rfl (d1' := lb) (d2' := -1) (fun l l0 z => by omega) (Int.le_refl _)
  have p8 := zW_n p9 (zsh so bs φ τ (zGc va bs k σ0.1) (zg en (bs + k)) (zg en (bs + k)) 0 0 (zcx va bs k)) (lb' := lb + 2) (by omega) (d1' := lb) (d2' := lb + 1) (fun l l0 z => by omega) (B1' := B1 + 2) (by omega)
  refine ⟨_, ?_, ?_, p8⟩
  · show (if lb = lb + 1 then _ else if lb = lb then _ else _) = _
    rw [if_neg (by omega), if_pos rfl]
  · show (if lb + 1 = lb + 1 then _ else _) = _
    rw [if_pos rfl]
theorem zJ_1 {so va le mo ho pa en fp pb pe ac aA aB la ta tA tB : Nat → Int32} {Z : Int → Int} {bs q n c φ N lb m : Int} {C Λ : Int → zT} {σ σ0 τ : zT} {k B1 B2 : Int} (h : zND so va le mo ho pa en fp pb pe ac aA aB la ta tA tB Z bs q n c φ N lb m C Λ σ σ0 τ k B1 B2) (hs : zg so (bs + k) = 7) (p0 : φ = 0) (hv : zg va (bs + k) ≠ 2) : zL4 so va en ac aA aB la ta tA tB Z bs n φ N lb m C σ σ0 τ k B1 B2 := by
  obtain ⟨Λ2, e1, e2, p8⟩ := zJ_0 h hs p0
  obtain ⟨_, _, _, _, _, _, _, _, _, _, g1⟩ := zJ_f h hs p0
  refine ⟨Λ2, e1, e2, ?_⟩
  have eG : zGc va bs k σ0.1 = τ.1 := by unfold zGc; rw [if_neg hv]; exact g1.symm
  have ec : zcx va bs k = 0 := if_neg hv
  rw [eG, ec, zsh_e]
  obtain ⟨h1, h2, h3, h4, h5, h6⟩ := p8
  exact ⟨h1, h2, h3, h4, by omega, by omega⟩
theorem zJ_2 {so va le mo ho pa en fp pb pe ac aA aB la ta tA tB ta1 tA1 tB1 : Nat → Int32} {Z : Int → Int} {bs q n c φ N lb m' : Int} {C Λ : Int → zT} {σ σ0 τ : zT} {k B1 B2 : Int} {i o1 a1 b1 : Int32} (h : zND so va le mo ho pa en fp pb pe ac aA aB la ta tA tB Z bs q n c φ N lb i.toInt C Λ σ σ0 τ k B1 B2) (e1 : ta1 = upd ta i.toNatClampNeg o1) (e2 : tA1 = upd tA i.toNatClampNeg a1) (e3 : tB1 = upd tB i.toNatClampNeg b1) (hs : zg so (bs + k) = 7) (p0 : φ = 0) (hv : zg va (bs + k) = 2) (ho1 : o1.toInt = 12) (ha1 : a1.toInt = k) (hm : m' = i.toInt + 1) : zL4 so va en ac aA aB la ta1 tA1 tB1 Z bs n φ N lb m' C σ σ0 τ k B1 B2 := by
  obtain ⟨Λ2, l1, l2, p8⟩ := zJ_0 h hs p0
  obtain ⟨ck, cc, _, _, _, t9, _, _, _, _, g1⟩ := zJ_f h hs p0
  obtain ⟨⟨x0, x1, x2⟩, f7, f6, f2, m4, m5, m6, t0, s1⟩ := zN_1 h (by omega)
  obtain ⟨_, hSl, _, _, hN, _, _, rt, _⟩ := h
  refine ⟨Λ2, l1, l2, ?_⟩
  have eG : zGc va bs k σ0.1 = (1, k) :: σ0.1 := if_pos hv
  refine zW_p p8 e1 e2 e3 ?_ (zRg_sh hSl rt ck (by omega) (by omega) (Int.le_refl _) f2 (by omega) (by omega) (by omega) (by omega)) (fun l l0 _ z => Or.inl z) hm (by rw [zc1_o (by omega)]; omega) (by rw [ho1]; show B2 + 1 ≤ B2 + 1; omega)
  rw [ho1, ha1, eG]
  have ec : zcx va bs k = 1 := if_pos hv
  refine zO_12 ⟨by omega, by omega⟩ g1 (fun e => ⟨?_, ?_, ?_⟩) p0 ⟨by omega, by omega⟩ ⟨_, rfl⟩
  · show τ.2.1 ≤ τ.2.1 + _ - _ + 0 + 0; omega
  · show τ.2.2.1 ≤ τ.2.2.1 + _ - _ + 0 + 0; omega
  · show τ.2.2.2 ≤ τ.2.2.2 + _ - _ + zcx va bs k - 1; omega
def zL6 (so va en ac aA aB la ta tA tB : Nat → Int32) (Z : Int → Int) (bs n φ N lb m : Int) (C : Int → zT) (σ σ0 τ : zT) (k B1 : Int) : Prop := ∃ (Λ : Int → zT) (B2 : Int), zW so va en ac aA aB la ta tA tB Z bs n φ N (lb + 2) m C Λ σ (zsh so bs φ τ (zGc va bs k σ0.1) (zg en (bs + k)) (zg en (bs + k)) 1 0 (zcx va bs k + 2)) (-1) (-1) (B1 + 12 * Z (k + 1) + 4) B2
set_option maxHeartbeats 1000000 in
theorem zJ_3 {so va le mo ho pa en fp pb pe ac aA aB la ta tA tB ta0 tA0 tB0 ta1 tA1 tB1 ta2 tA2 tB2 ta3 tA3 tB3 ta4 tA4 tB4 ta5 tA5 tB5 ta6 tA6 tB6 : Nat → Int32} {Z : Int → Int} {bs q n c φ N lb m0 m' : Int} {C Λ : Int → zT} {σ σ0 τ : zT} {k B1 B2 : Int} {i1 i2 i3 i4 i5 i6 o1 a1 b1 o2 a2 b2 o3 a3 b3 o4 a4 b4 o5 a5 b5 o6 a6 b6 : Int32} (h0 : zND so va le mo ho pa en fp pb pe ac aA aB la ta0 tA0 tB0 Z bs q n c φ N lb m0 C Λ σ σ0 τ k B1 B2) (h : zL4 so va en ac aA aB la ta tA tB Z bs n φ N lb i1.toInt C σ σ0 τ k B1 B2) (e11 : ta1 = upd ta i1.toNatClampNeg o1) (e12 : tA1 = upd tA i1.toNatClampNeg a1) (e13 : tB1 = upd tB i1.toNatClampNeg b1) (e21 : ta2 = upd ta1 i2.toNatClampNeg o2) (e22 : tA2 = upd tA1 i2.toNatClampNeg a2) (e23 : tB2 = upd tB1 i2.toNatClampNeg b2) (e31 : ta3 = upd ta2 i3.toNatClampNeg o3) (e32 : tA3 = upd tA2 i3.toNatClampNeg a3) (e33 : tB3 = upd tB2 i3.toNatClampNeg b3) (e41 : ta4 = upd ta3 i4.toNatClampNeg o4) (e42 : tA4 = upd tA3 i4.toNatClampNeg a4) (e43 : tB4 = upd tB3 i4.toNatClampNeg b4) (e51 : ta5 = upd ta4 i5.toNatClampNeg o5) (e52 : tA5 = upd tA4 i5.toNatClampNeg a5) (e53 : tB5 = upd tB4 i5.toNatClampNeg b5) (e61 : ta6 = upd ta5 i6.toNatClampNeg o6) (e62 : tA6 = upd tA5 i6.toNatClampNeg a6) (e63 : tB6 = upd tB5 i6.toNatClampNeg b6) (hs : zg so (bs + k) = 7) (p0 : φ = 0) (ho : o1.toInt = 101 ∧ o2.toInt = 10 ∧ o3.toInt = 100 ∧ o4.toInt = 9 ∧ o5.toInt = 101 ∧ o6.toInt = 8) (ha : a1.toInt = lb + 1 ∧ a2.toInt = k ∧ a3.toInt = k + 1 ∧ a4.toInt = k ∧ a5.toInt = lb ∧ a6.toInt = k) (hb : b2.toInt = lb ∧ b4.toInt = lb + 1) (hi : i2.toInt = i1.toInt + 1 ∧ i3.toInt = i2.toInt + 1 ∧ i4.toInt = i3.toInt + 1 ∧ i5.toInt = i4.toInt + 1 ∧ i6.toInt = i5.toInt + 1 ∧ m' = i6.toInt + 1) : zL6 so va en ac aA aB la ta6 tA6 tB6 Z bs n φ N lb m' C σ σ0 τ k B1 := by
  obtain ⟨Λ2, l1, l2, hW⟩ := h
  obtain ⟨ck, cc, t1, t2, t3, t9, _, _, lb0, _, g1⟩ := zJ_f h0 hs p0
  obtain ⟨⟨x0, x1, x2⟩, f7, f6, f2, m4, m5, m6, t0, s1⟩ := zN_1 h0 (by omega)
  obtain ⟨_, hSl, _, _, hN, _, _, rt, _⟩ := h0
  obtain ⟨ho1, ho2, ho3, ho4, ho5, ho6⟩ := ho
  obtain ⟨ha1, ha2, ha3, ha4, ha5, ha6⟩ := ha
  obtain ⟨hb2, hb4⟩ := hb
  obtain ⟨hi2, hi3, hi4, hi5, hi6, hm⟩ := hi
  have rg : ∀ p u x : Int, (p = k + 1 ∨ p = zg en (bs + k)) → 0 ≤ u → 0 ≤ x → x ≤ 3 → zRg (zsh so bs φ τ (zGc va bs k σ0.1) p (zg en (bs + k)) u 0 x) := fun p u x hp u0 x0 x3 => by
    rcases hp with e | e <;> subst e
    · exact zRg_sh hSl rt ck (by omega) (by omega) (by omega) f2 u0 (by omega) x0 (by omega)
    · exact zRg_sh hSl rt ck (by omega) (by omega) (by omega) f2 u0 (by omega) x0 (by omega)
  have p1 := zW_p hW e11 e12 e13 (by rw [ho1, ha1]; exact Or.inr (Or.inl ⟨rfl, ⟨by omega, by omega⟩, l2.symm, rfl⟩)) (rg _ _ _ (Or.inr rfl) (Int.le_refl _) cc.1 (by omega)) (d1' := lb) (d2' := -1) (fun l l0 _ z => by omega) (m' := i2.toInt) (by omega) (Int.le_refl _) (Int.le_refl _)
  have p2 := zW_p (ρ' := zsh so bs φ τ (zGc va bs k σ0.1) (zg en (bs + k)) (zg en (bs + k)) 1 0 (zcx va bs k + 2)) p1 e21 e22 e23 (by
    rw [ho2, ha2, hb2]
    refine zO_10 ⟨by omega, by omega⟩ p0 ⟨by omega, by omega⟩ ⟨by omega, by omega, ?_⟩
    rw [l1]; refine ⟨rfl, fun _ => ⟨Int.le_refl _, Int.le_refl _, ?_⟩⟩
    show τ.2.2.2 + _ - _ + (zcx va bs k + 1) ≤ τ.2.2.2 + _ - _ + (zcx va bs k + 2) - 1; omega) (rg _ _ _ (Or.inr rfl) (by omega) (by omega) (by omega)) (d1' := lb) (d2' := -1) (fun l l0 _ z => Or.inl z) (m' := i3.toInt) (by omega) (Int.le_refl _) (Int.le_refl _)
  have p3 := zW_p (ρ' := zsh so bs φ τ (zGc va bs k σ0.1) (k + 1) (zg en (bs + k)) 1 0 (zcx va bs k + 2)) p2 e31 e32 e33 (by
    rw [ho3, ha3]
    have := zNt_c (φ := φ) (τ := τ) (e := zg en (bs + k)) (u := 1) (r := 0) (x := zcx va bs k + 2) (u' := 1) (r' := 0) (x' := zcx va bs k + 2) hSl ck (by omega) x1 (Int.le_refl _) (Int.le_refl _) (Int.le_refl _)
    rw [f7] at this
    exact Or.inl ⟨rfl, this⟩) (rg _ _ _ (Or.inl rfl) (by omega) (by omega) (by omega)) (d1' := lb) (d2' := -1) (fun l l0 _ z => Or.inl z) (m' := i4.toInt) (by omega) (Int.le_refl _) (Int.le_refl _)
  have p4 := zW_p (ρ' := zsh so bs φ τ (zGc va bs k σ0.1) (zg en (bs + k)) (zg en (bs + k)) 1 0 (zcx va bs k + 1)) p3 e41 e42 e43 (by
    rw [ho4, ha4, hb4]
    refine zO_9 ⟨by omega, by omega⟩ rfl (fun _ => ⟨?_, ?_, ?_⟩) p0 ⟨by omega, by omega⟩ ⟨by omega, by omega, ?_⟩
    · show τ.2.1 + _ - _ + 1 ≤ τ.2.1 + _ - _ + 1 + 51; omega
    · show τ.2.2.1 + _ - _ + 0 ≤ τ.2.2.1 + _ - _ + 0 + 30; omega
    · show τ.2.2.2 + _ - _ + (zcx va bs k + 2) ≤ 1000; omega
    · rw [l2]; refine ⟨rfl, fun _ => ⟨?_, Int.le_refl _, ?_⟩⟩
      · show τ.2.1 + _ - _ + 0 ≤ τ.2.1 + _ - _ + 1 - 1; omega
      · show τ.2.2.2 + _ - _ + zcx va bs k ≤ τ.2.2.2 + _ - _ + (zcx va bs k + 1) - 1; omega) (rg _ _ _ (Or.inr rfl) (by omega) (by omega) (by omega)) (d1' := lb) (d2' := -1) (fun l l0 _ z => Or.inl z) (m' := i5.toInt) (by omega) (Int.le_refl _) (Int.le_refl _)
  have p5 := zW_p p4 e51 e52 e53 (by rw [ho5, ha5]; exact Or.inr (Or.inl ⟨rfl, ⟨by omega, by omega⟩, l1.symm, rfl⟩)) (rg _ _ _ (Or.inr rfl) (by omega) (by omega) (by omega)) (d1' := -1) (d2' := -1) (fun l l0 _ z => by omega) (m' := i6.toInt) (by omega) (Int.le_refl _) (Int.le_refl _)
  have c1 : zc1 Z o1.toInt a1.toInt = 1 := zc1_o (by omega)
  have c2 : zc1 Z o2.toInt a2.toInt = 1 := zc1_o (by omega)
  have c3 : zc1 Z o3.toInt a3.toInt = 12 * Z (k + 1) - 4 := by rw [ho3, ha3]; exact zc1_n
  have c4 : zc1 Z o4.toInt a4.toInt = 1 := zc1_o (by omega)
  have c5 : zc1 Z o5.toInt a5.toInt = 1 := zc1_o (by omega)
  have c6 : zc1 Z o6.toInt a6.toInt = 1 := zc1_o (by omega)
  refine ⟨Λ2, _, zW_p p5 e61 e62 e63 ?_ (rg _ _ _ (Or.inr rfl) (by omega) (by omega) (by omega)) (fun l l0 _ z => Or.inl z) hm (by omega) (Int.le_refl _)⟩
  rw [ho6, ha6]
  refine zO_8 ⟨by omega, by omega⟩ rfl (fun _ => ⟨?_, ?_, ?_⟩) p0 ⟨by omega, by omega⟩
  · show τ.2.1 + _ - _ + 1 ≤ τ.2.1 + _ - _ + 1 + 0; omega
  · show τ.2.2.1 + _ - _ + 0 ≤ τ.2.2.1 + _ - _ + 0 + 0; omega
  · show τ.2.2.2 + _ - _ + (zcx va bs k + 1) ≤ τ.2.2.2 + _ - _ + (zcx va bs k + 2) - 1; omega
theorem zJ_4 {so va le mo ho pa en fp pb pe ac aA aB la ta tA tB ta0 tA0 tB0 : Nat → Int32} {Z : Int → Int} {bs q n c φ N lb lb' m0 m : Int} {C Λ : Int → zT} {σ σ0 τ : zT} {k B1 B2 : Int} (h0 : zND so va le mo ho pa en fp pb pe ac aA aB la ta0 tA0 tB0 Z bs q n c φ N lb m0 C Λ σ σ0 τ k B1 B2) (h : zL6 so va en ac aA aB la ta tA tB Z bs n φ N lb m C σ σ0 τ k B1) (hs : zg so (bs + k) = 7) (p0 : φ = 0) (hv : zg va (bs + k) ≠ 2) (hl : lb' = lb + 2) : zWp so va en ac aA aB la ta tA tB Z bs n φ N lb' m C σ k B1 B2 := by
  obtain ⟨Λ2, B, hW⟩ := h
  obtain ⟨ck, cc, t1, t2, t3, t9, z1, z2, lb0, _, g1⟩ := zJ_f h0 hs p0
  obtain ⟨⟨x0, x1, x2⟩, f7, f6, f2, m4, m5, m6, t0, s1⟩ := zN_1 h0 (by omega)
  obtain ⟨_, _, _, _, hN, hge, _⟩ := h0
  have eG : zGc va bs k σ0.1 = σ0.1 := if_neg hv
  have ec : zcx va bs k = 0 := if_neg hv
  subst hl
  refine zW_o hW (zge_tr hge ?_) (by omega) (fun e => by omega)
  rw [eG, ec]
  refine ⟨rfl, fun _ => ⟨?_, ?_, ?_⟩⟩
  · show τ.2.1 + _ - _ + 1 ≤ σ0.2.1; omega
  · show τ.2.2.1 + _ - _ + 0 ≤ σ0.2.2.1; omega
  · show τ.2.2.2 + _ - _ + (0 + 2) ≤ σ0.2.2.2; omega
theorem zJ_5 {so va le mo ho pa en fp pb pe ac aA aB la ta tA tB ta0 tA0 tB0 ta1 tA1 tB1 : Nat → Int32} {Z : Int → Int} {bs q n c φ N lb lb' m0 m' : Int} {C Λ : Int → zT} {σ σ0 τ : zT} {k B1 B2 : Int} {i o1 a1 b1 : Int32} (h0 : zND so va le mo ho pa en fp pb pe ac aA aB la ta0 tA0 tB0 Z bs q n c φ N lb m0 C Λ σ σ0 τ k B1 B2) (h : zL6 so va en ac aA aB la ta tA tB Z bs n φ N lb i.toInt C σ σ0 τ k B1) (e1 : ta1 = upd ta i.toNatClampNeg o1) (e2 : tA1 = upd tA i.toNatClampNeg a1) (e3 : tB1 = upd tB i.toNatClampNeg b1) (hs : zg so (bs + k) = 7) (p0 : φ = 0) (hv : zg va (bs + k) = 2) (hl : lb' = lb + 2) (ho1 : o1.toInt = 11) (ha1 : a1.toInt = k) (hm : m' = i.toInt + 1) : zWp so va en ac aA aB la ta1 tA1 tB1 Z bs n φ N lb' m' C σ k B1 B2 := by
  obtain ⟨Λ2, B, hW⟩ := h
  obtain ⟨ck, cc, t1, t2, t3, t9, z1, z2, lb0, ck0, g1⟩ := zJ_f h0 hs p0
  obtain ⟨⟨x0, x1, x2⟩, f7, f6, f2, m4, m5, m6, t0, s1⟩ := zN_1 h0 (by omega)
  obtain ⟨_, hSl, _, _, hN, hge, r0, _⟩ := h0
  have eG : zGc va bs k σ0.1 = (1, k) :: σ0.1 := if_pos hv
  have c1 : zc1 Z o1.toInt a1.toInt = 1 := zc1_o (by omega)
  subst hl
  refine zW_o (zW_p (ρ' := σ0) hW e1 e2 e3 ?_ r0 (d1' := -1) (d2' := -1) (fun l l0 _ z => Or.inl z) hm (Int.le_refl _) (Int.le_refl _)) hge (by omega) (fun e => by omega)
  rw [ho1, ha1]
  refine zO_11 ⟨by omega, by omega⟩ ?_ (fun _ => ⟨?_, ?_, ?_⟩) p0 ⟨by omega, by omega⟩ (zCk_nd hSl (by omega) (Or.inl rfl) (by omega) ck0)
  · show zGc va bs k σ0.1 = _; exact eG
  · show τ.2.1 + _ - _ + 1 ≤ σ0.2.1 + 52; omega
  · show τ.2.2.1 + _ - _ + 0 ≤ σ0.2.2.1 + 32; omega
  · show τ.2.2.2 + _ - _ + (zcx va bs k + 2) ≤ 1000; omega
def zhq (he : Nat → Int32) (n e i : Int) : Int := if i + 1 = n then e else zg he (i + 1)
def zHe (he en : Nat → Int32) (bs n k e : Int) : Prop := (∀ i : Int, 0 ≤ i → i < n → k < zg he i ∧ zg he i < e ∧ zg en (bs + zg he i) = zhq he n e i) ∧ (1 ≤ n → zg he 0 = k + 1) ∧ (n = 0 → e = k + 1) ∧ 0 ≤ n
theorem zK_m {so va en ta tA tB : Nat → Int32} {bs n φ lb : Int} {Λ : Int → zT} {Z : Int → Int} (hZ : ∀ k : Int, 0 ≤ k → k < n → 1 ≤ Z k) : ∀ {m : Nat} {σ : zT}, zK so va en ta tA tB bs n φ lb Λ m σ → (m : Int) ≤ zsm (fun i => zc1 Z (zg ta i) (zg tA i)) m := by
  intro m; induction m with
  | zero => intro σ _; exact Int.le_refl _
  | succ m ih =>
    intro σ h
    obtain ⟨σ0, τ, h1, h2, h3, h4, h5⟩ := h
    have a := ih h5
    have e : zsm (fun i => zc1 Z (zg ta i) (zg tA i)) (m + 1) = zsm (fun i => zc1 Z (zg ta i) (zg tA i)) m + zc1 Z (zg ta m) (zg tA m) := rfl
    have c : 1 ≤ zc1 Z (zg ta m) (zg tA m) := by
      unfold zc1; split
      · rename_i q
        rcases h3 with ⟨_, g⟩ | ⟨g, _⟩ | ⟨⟨⟨g, _⟩, _⟩, _⟩
        · have := hZ _ g.1.1 g.1.2; omega
        · omega
        · omega
      · exact Int.le_refl _
    rw [e]; omega
theorem zW_m {so va le mo en ac aA aB la ta tA tB : Nat → Int32} {Z : Int → Int} {bs n φ N lb m : Int} {C Λ : Int → zT} {σ ρ : zT} {d1 d2 B1 B2 : Int} (h : zW so va en ac aA aB la ta tA tB Z bs n φ N lb m C Λ σ ρ d1 d2 B1 B2) (hZ : zZ so le mo en bs n φ Z) : lb + m ≤ B1 := by
  obtain ⟨h1, h2, h3, h4, h5, h6⟩ := h
  have := zK_m (fun k k0 k1 => (hZ k k0 k1).1) h4
  have e : zsu (zc1 Z) ta tA m = zsm (fun i => zc1 Z (zg ta i) (zg tA i)) m.toNat := rfl
  omega
def zRo (so va en ac aA aB la ta tA tB : Nat → Int32) (Z : Int → Int) (bs n φ N lb m : Int) (C Λ : Int → zT) (σ : zT) (τ : zT) (G : List (Int × Int)) (p e B1 B2 : Int) : Prop := zW so va en ac aA aB la ta tA tB Z bs n φ N lb m C Λ σ (zsh so bs φ τ G p e 0 0 0) (-1) (-1) (B1 + 12 * zcz en bs Z p e) (B2 + 4 * zcz en bs Z p e)
theorem zRo_0 {so va le mo ho pa en fp pb pe ac aA aB la ta tA tB : Nat → Int32} {Z : Int → Int} {bs q n c φ N lb m : Int} {C Λ : Int → zT} {σ σ0 τ : zT} {k B1 B2 : Int} (h : zND so va le mo ho pa en fp pb pe ac aA aB la ta tA tB Z bs q n c φ N lb m C Λ σ σ0 τ k B1 B2) : zRo so va en ac aA aB la ta tA tB Z bs n φ N lb m C Λ σ τ σ0.1 (zg en (bs + k)) (zg en (bs + k)) B1 B2 := by
  obtain ⟨_, _, _, _, hN, _, _, _, hW⟩ := h
  unfold zRo
  rw [← hN.2.2.1, zsh_e, zcz_end (Int.le_refl _)]
  obtain ⟨h1, h2, h3, h4, h5, h6⟩ := hW
  exact ⟨h1, h2, h3, h4, by omega, by omega⟩
theorem zRo_s {so va le mo ho pa en fp pb pe ac aA aB la ta tA tB ta0 tA0 tB0 ta1 tA1 tB1 he : Nat → Int32} {Z : Int → Int} {bs q n c φ N lb m0 m' nn jω : Int} {C Λ : Int → zT} {σ σ0 τ : zT} {k B1 B2 : Int} {i o1 a1 b1 j : Int32} (h0 : zND so va le mo ho pa en fp pb pe ac aA aB la ta0 tA0 tB0 Z bs q n c φ N lb m0 C Λ σ σ0 τ k B1 B2) (hH : zHe he en bs nn k (zg en (bs + k))) (h : zRo so va en ac aA aB la ta tA tB Z bs n φ N lb i.toInt C Λ σ τ σ0.1 (zhq he nn (zg en (bs + k)) j.toInt) (zg en (bs + k)) B1 B2) (e1 : ta1 = upd ta i.toNatClampNeg o1) (e2 : tA1 = upd tA i.toNatClampNeg a1) (e3 : tB1 = upd tB i.toNatClampNeg b1) (ea : a1 = he j.toNatClampNeg) (ho1 : o1.toInt = 100) (j0 : 0 ≤ j.toInt) (j1 : j.toInt < nn) (hm : m' = i.toInt + 1) (hj' : jω = j.toInt - 1) : zRo so va en ac aA aB la ta1 tA1 tB1 Z bs n φ N lb m' C Λ σ τ σ0.1 (zhq he nn (zg en (bs + k)) jω) (zg en (bs + k)) B1 B2 := by
  subst hj'
  obtain ⟨hh, _⟩ := hH
  obtain ⟨c1, c2, c3⟩ := hh j.toInt j0 j1
  have ha := zg_at ea
  obtain ⟨⟨hφ, _⟩, hSl, hZ, _, hN, _, r0, rt, _⟩ := h0
  obtain ⟨⟨k0, k1⟩, ck, g1, n1, n2, n3⟩ := hN
  obtain ⟨_, ⟨f1, f2⟩, _, _, _, _, _, _⟩ := zNf hSl k0 k1
  have ep : zhq he nn (zg en (bs + k)) (j.toInt - 1) = a1.toInt := by
    unfold zhq; rw [if_neg (by omega), ha, show j.toInt - 1 + 1 = j.toInt by omega]
  rw [ep]
  have en1 : zg en (bs + a1.toInt) = zhq he nn (zg en (bs + k)) j.toInt := by rw [ha]; exact c3
  obtain ⟨_, ⟨g2, g3⟩, _⟩ := zNf hSl (show 0 ≤ a1.toInt by omega) (show a1.toInt < n by omega)
  have st := zcz_step (en := en) (Z := Z) (b := bs) (c := a1.toInt) (l := zg en (bs + k)) (fun x x0 x1 => (zNf hSl (show 0 ≤ x by omega) (by omega)).2.1.1) (by omega)
  have ckm := zCk_m (show k ≤ a1.toInt by omega) ck
  obtain ⟨⟨m1, _⟩, ⟨m2, _⟩, m3, _⟩ := zh_m (φ := φ) hSl k0 (show k ≤ a1.toInt by omega) (by omega)
  unfold zRo at h ⊢
  rw [← en1] at h
  have nt := zNt_c (φ := φ) (τ := τ) (e := zg en (bs + k)) (u := 0) (r := 0) (x := 0) (u' := 0) (r' := 0) (x' := 0) hSl ckm (by omega) (by omega) (Int.le_refl _) (Int.le_refl _) (Int.le_refl _)
  refine zW_p h e1 e2 e3 (by rw [ho1]; exact Or.inl ⟨rfl, nt⟩) (zRg_sh hSl rt ckm (by omega) (by omega) (by omega) f2 (by omega) (by omega) (by omega) (by have := r0.2.2.2.1; omega)) (fun l l0 _ z => Or.inl z) hm ?_ ?_
  · rw [ho1, zc1_n, st]; omega
  · rw [ho1, zc2_n, st]; omega
theorem zRo_e {so va le mo ho pa en fp pb pe ac aA aB la ta tA tB ta0 tA0 tB0 he : Nat → Int32} {Z : Int → Int} {bs q n c φ N lb m0 m nn j : Int} {C Λ : Int → zT} {σ σ0 τ : zT} {k B1 B2 : Int} (h0 : zND so va le mo ho pa en fp pb pe ac aA aB la ta0 tA0 tB0 Z bs q n c φ N lb m0 C Λ σ σ0 τ k B1 B2) (hH : zHe he en bs nn k (zg en (bs + k))) (h : zRo so va en ac aA aB la ta tA tB Z bs n φ N lb m C Λ σ τ σ0.1 (zhq he nn (zg en (bs + k)) j) (zg en (bs + k)) B1 B2) (hj : j = -1) (hs : zg so (bs + k) = 5) : zWp so va en ac aA aB la ta tA tB Z bs n φ N lb m C σ k B1 B2 := by
  obtain ⟨hh, h1, h2, h3⟩ := hH
  have ep : zhq he nn (zg en (bs + k)) j = k + 1 := by
    unfold zhq
    by_cases e : nn = 0
    · rw [if_pos (by omega)]; exact h2 e
    · rw [if_neg (by omega), show j + 1 = 0 by omega]; exact h1 (by omega)
  rw [ep] at h
  obtain ⟨⟨hφ, _⟩, hSl, hZ, hz, hN, hge, r0, rt, _⟩ := h0
  have hN2 := hN
  obtain ⟨⟨k0, k1⟩, ck, g1, n1, n2, n3⟩ := hN2
  have zz := ((hZ k k0 k1).2 hz).1 (Or.inr (by omega))
  obtain ⟨_, ⟨f1, f2⟩, _⟩ := zNf hSl k0 k1
  obtain ⟨⟨m1, _⟩, ⟨m2, _⟩, m3, _⟩ := zh_m (φ := φ) hSl k0 (show k ≤ k + 1 by omega) (by omega)
  exact zW_o h (zge_tr hge (zge_sh hN rfl (fun _ => ⟨by omega, by omega, by omega⟩))) (by omega) (fun _ => by omega)
def zCi (so va en ac aA aB la ta tA tB : Nat → Int32) (Z : Int → Int) (bs n φ N lb m : Int) (C : Int → zT) (σ : zT) (τ : zT) (G : List (Int × Int)) (ll p e B1 B2 : Int) : Prop := ∃ (Λ : Int → zT) (B : Int), Λ ll = τ ∧ (0 ≤ ll ∧ ll < lb) ∧ zW so va en ac aA aB la ta tA tB Z bs n φ N lb m C Λ σ (zsh so bs φ τ G p e (zqf φ) 0 (2 * zqf φ)) (-1) (-1) (B1 - 2 + 12 * zcz en bs Z p e) B ∧ (φ = 1 → B ≤ B2 - 3 + 4 * zcz en bs Z p e)
theorem zHe_c {so va le mo ho pa en fp pb pe ac aA aB la ta tA tB he : Nat → Int32} {Z : Int → Int} {bs q n c φ N lb m nn : Int} {C Λ : Int → zT} {σ σ0 τ : zT} {k B1 B2 : Int} {a j : Int32} (h0 : zND so va le mo ho pa en fp pb pe ac aA aB la ta tA tB Z bs q n c φ N lb m C Λ σ σ0 τ k B1 B2) (hH : zHe he en bs nn k (zg en (bs + k))) (ea : a = he j.toNatClampNeg) (j0 : 0 ≤ j.toInt) (j1 : j.toInt < nn) : (k < a.toInt ∧ a.toInt < zg en (bs + k) ∧ zg en (bs + k) ≤ n ∧ n ≤ 220) ∧ zg en (bs + a.toInt) = zhq he nn (zg en (bs + k)) j.toInt ∧ (a.toInt < zg en (bs + a.toInt) ∧ zg en (bs + a.toInt) ≤ zg en (bs + k)) ∧ zcz en bs Z a.toInt (zg en (bs + k)) = Z a.toInt + zcz en bs Z (zg en (bs + a.toInt)) (zg en (bs + k)) ∧ zCk so va bs σ0.1 a.toInt ∧ (zhL so bs φ k ≤ zhL so bs φ a.toInt ∧ zhC so bs φ k ≤ zhC so bs φ a.toInt ∧ zhX φ k + 4 * zqf φ ≤ zhX φ a.toInt) ∧ zRg (zsh so bs φ τ σ0.1 a.toInt (zg en (bs + k)) (zqf φ) 0 (2 * zqf φ)) ∧ zRg (zsh so bs φ τ σ0.1 a.toInt (zg en (bs + k)) 0 0 (zqf φ)) ∧ zRg (zsh so bs φ τ σ0.1 (zg en (bs + a.toInt)) (zg en (bs + k)) 0 0 (zqf φ)) := by
  obtain ⟨hh, _⟩ := hH
  obtain ⟨c1, c2, c3⟩ := hh j.toInt j0 j1
  have ha := zg_at ea
  obtain ⟨⟨hφ, _⟩, hSl, hZ, _, hN, _, r0, rt, _⟩ := h0
  obtain ⟨⟨k0, k1⟩, ck, g1, n1, n2, n3⟩ := hN
  obtain ⟨_, ⟨f1, f2⟩, _, _, _, _, _, fe⟩ := zNf hSl k0 k1
  rw [← ha] at c1 c2 c3
  have fe := fe a.toInt (by omega) (by omega)
  obtain ⟨_, ⟨g2, g3⟩, _⟩ := zNf hSl (show 0 ≤ a.toInt by omega) (show a.toInt < n by omega)
  have ckm := zCk_m (show k ≤ a.toInt by omega) ck
  obtain ⟨u0, u1, u2⟩ := @zqf_b φ
  obtain ⟨_, _, q3, q4, q5⟩ := zh_q (φ := φ) hSl k0 k1 hφ
  obtain ⟨⟨m1, _⟩, ⟨m2, _⟩, m3, _⟩ := zh_m (φ := φ) hSl (show 0 ≤ k + 1 by omega) (show k + 1 ≤ a.toInt by omega) (by omega)
  obtain ⟨⟨m4, _⟩, ⟨m5, _⟩, m6, _⟩ := zh_m (φ := φ) hSl (show 0 ≤ a.toInt by omega) (show a.toInt ≤ zg en (bs + a.toInt) by omega) (by omega)
  have s1 := r0.2.2.2.1
  refine ⟨⟨c1, c2, f2, hSl.2.1⟩, c3, ⟨g2, fe⟩, zcz_step (fun x x0 x1 => (zNf hSl (show 0 ≤ x by omega) (by omega)).2.1.1) (by omega), ckm, ⟨by omega, by omega, by omega⟩, zRg_sh hSl rt ckm (by omega) (by omega) (by omega) f2 u0 (Int.le_refl _) (by omega) (by omega), zRg_sh hSl rt ckm (by omega) (by omega) (by omega) f2 (Int.le_refl _) (Int.le_refl _) u0 (by omega), zRg_sh hSl rt ckm (by omega) (by omega) fe f2 (Int.le_refl _) (Int.le_refl _) u0 (by omega)⟩
theorem zCi_0 {so va le mo ho pa en fp pb pe ac aA aB la ta tA tB ta1 tA1 tB1 ta2 tA2 tB2 he : Nat → Int32} {Z : Int → Int} {bs q n c φ N lb lb' m' nn p ll : Int} {C Λ : Int → zT} {σ σ0 τ : zT} {k B1 B2 : Int} {i1 i2 o1 a1 b1 o2 a2 b2 j : Int32} (h0 : zND so va le mo ho pa en fp pb pe ac aA aB la ta tA tB Z bs q n c φ N lb i1.toInt C Λ σ σ0 τ k B1 B2) (hH : zHe he en bs nn k (zg en (bs + k))) (e11 : ta1 = upd ta i1.toNatClampNeg o1) (e12 : tA1 = upd tA i1.toNatClampNeg a1) (e13 : tB1 = upd tB i1.toNatClampNeg b1) (e21 : ta2 = upd ta1 i2.toNatClampNeg o2) (e22 : tA2 = upd tA1 i2.toNatClampNeg a2) (e23 : tB2 = upd tB1 i2.toNatClampNeg b2) (ea : a2 = he j.toNatClampNeg) (hj : j.toInt = nn - 1) (hn1 : 1 ≤ nn) (ho1 : o1.toInt = 101) (ho2 : o2.toInt = 100) (ha1 : a1.toInt = lb) (hl : lb' = lb + 1) (hi2 : i2.toInt = i1.toInt + 1) (hm : m' = i2.toInt + 1) (hp : p = a2.toInt) (hll : ll = lb) : zCi so va en ac aA aB la ta2 tA2 tB2 Z bs n φ N lb' m' C σ τ σ0.1 ll p (zg en (bs + k)) B1 B2 := by
  obtain ⟨⟨c1, c2, c3, c4⟩, ce, cf, cz, ck, cm, r1, r2, r3⟩ := zHe_c h0 hH ea (by omega) (by omega)
  obtain ⟨⟨hφ, _⟩, hSl, hZ, _, hN, _, r0, rt, hW⟩ := h0
  obtain ⟨⟨k0, k1⟩, _, g1, _⟩ := hN
  have lb0 := hW.2.1
  have ee : zhq he nn (zg en (bs + k)) j.toInt = zg en (bs + k) := if_pos (by omega)
  rw [ee] at ce
  rw [ce, zcz_end (Int.le_refl _)] at cz
  obtain ⟨u0, u1, u2⟩ := @zqf_b φ
  subst hp; subst hll
  have p9 := zW_n hW τ hl (d1' := ll) (d2' := -1) (fun l l0 z => by omega) (Int.le_refl _)
  have el : (fun l => if l = ll then τ else Λ l) ll = τ := if_pos rfl
  have p8 := zW_p (ρ' := τ) p9 e11 e12 e13 (by rw [ho1, ha1]; exact Or.inr (Or.inl ⟨rfl, ⟨lb0, by omega⟩, el.symm, rfl⟩)) rt (d1' := -1) (d2' := -1) (fun l l0 _ z => by omega) (m' := i2.toInt) (by omega) (Int.le_refl _) (Int.le_refl _)
  have nt := zNt_c (φ := φ) (τ := τ) (e := zg en (bs + k)) (u := zqf φ) (r := 0) (x := 2 * zqf φ) (u' := 0) (r' := 0) (x' := 0) hSl ck (by omega) (by omega) (by omega) (Int.le_refl _) (by omega)
  rw [ce, ← g1, zsh_e, g1] at nt
  have d1 : zc1 Z o1.toInt a1.toInt = 1 := zc1_o (by omega)
  have d2 : zc1 Z o2.toInt a2.toInt = 12 * Z a2.toInt - 4 := by rw [ho2]; exact zc1_n
  have d3 : zc2 Z o1.toInt a1.toInt = 0 := by rw [ho1]; rfl
  have d4 : zc2 Z o2.toInt a2.toInt = 4 * Z a2.toInt - 3 := by rw [ho2]; exact zc2_n
  exact ⟨_, B2 + zc2 Z o1.toInt a1.toInt + zc2 Z o2.toInt a2.toInt, el, ⟨lb0, by omega⟩, zW_p p8 e21 e22 e23 (by rw [ho2]; exact Or.inl ⟨rfl, nt⟩) r1 (fun l l0 _ z => Or.inl z) hm (by omega) (Int.le_refl _), fun _ => by omega⟩
set_option maxHeartbeats 1000000 in
/- one more of a choice -/
theorem zCi_s {so va le mo ho pa en fp pb pe ac aA aB la ta tA tB ta0 tA0 tB0 ta1 tA1 tB1 ta2 tA2 tB2 ta3 tA3 tB3 ta4 tA4 tB4 he : Nat → Int32} {Z : Int → Int} {bs q n c φ N lb lb' lb0' m0 m' nn p pω ll : Int} {C Λ : Int → zT} {σ σ0 τ : zT} {k B1 B2 : Int} {i1 i2 i3 i4 o1 a1 b1 o2 a2 b2 o3 a3 b3 o4 a4 b4 j : Int32} (h0 : zND so va le mo ho pa en fp pb pe ac aA aB la ta0 tA0 tB0 Z bs q n c φ N lb0' m0 C Λ σ σ0 τ k B1 B2) (hH : zHe he en bs nn k (zg en (bs + k))) (h : zCi so va en ac aA aB la ta tA tB Z bs n φ N lb i1.toInt C σ τ σ0.1 ll p (zg en (bs + k)) B1 B2) (e11 : ta1 = upd ta i1.toNatClampNeg o1) (e12 : tA1 = upd tA i1.toNatClampNeg a1) (e13 : tB1 = upd tB i1.toNatClampNeg b1) (e21 : ta2 = upd ta1 i2.toNatClampNeg o2) (e22 : tA2 = upd tA1 i2.toNatClampNeg a2) (e23 : tB2 = upd tB1 i2.toNatClampNeg b2) (e31 : ta3 = upd ta2 i3.toNatClampNeg o3) (e32 : tA3 = upd tA2 i3.toNatClampNeg a3) (e33 : tB3 = upd tB2 i3.toNatClampNeg b3) (e41 : ta4 = upd ta3 i4.toNatClampNeg o4) (e42 : tA4 = upd tA3 i4.toNatClampNeg a4) (e43 : tB4 = upd tB3 i4.toNatClampNeg b4) (ea : a3 = he j.toNatClampNeg) (j0 : 0 ≤ j.toInt) (j1 : j.toInt + 1 < nn) (hpp : p = zg he (j.toInt + 1)) (ho : o1.toInt = 101 ∧ o2.toInt = 5 ∧ o3.toInt = 100 ∧ o4.toInt = 3) (ha : a1.toInt = lb ∧ a2.toInt = ll ∧ a4.toInt = lb) (hl : lb' = lb + 1) (hi : i2.toInt = i1.toInt + 1 ∧ i3.toInt = i2.toInt + 1 ∧ i4.toInt = i3.toInt + 1 ∧ m' = i4.toInt + 1) (hp : pω = a3.toInt) (hlb : lb + 1 < 3000) : zCi so va en ac aA aB la ta4 tA4 tB4 Z bs n φ N lb' m' C σ τ σ0.1 ll pω (zg en (bs + k)) B1 B2 := by
  obtain ⟨⟨c1, c2, c3, c4⟩, ce, cf, cz, ck, cm, r1, r2, r3⟩ := zHe_c h0 hH ea j0 (by omega)
  obtain ⟨⟨hφ, _⟩, hSl, hZ, _, hN, _, r0, rt, _⟩ := h0
  obtain ⟨⟨k0, k1⟩, _, g1, _⟩ := hN
  obtain ⟨Λ1, B, l1, l2, hW, hB⟩ := h
  have ee : zhq he nn (zg en (bs + k)) j.toInt = p := by unfold zhq; rw [if_neg (by omega)]; exact hpp.symm
  rw [ee] at ce
  obtain ⟨u0, u1, u2⟩ := @zqf_b φ
  obtain ⟨ho1, ho2, ho3, ho4⟩ := ho
  obtain ⟨ha1, ha2, ha4⟩ := ha
  obtain ⟨hi2, hi3, hi4, hm⟩ := hi
  rw [ce] at cf cz r3
  obtain ⟨⟨m4, _⟩, ⟨m5, _⟩, m6, _⟩ := zh_m (φ := φ) hSl (show 0 ≤ a3.toInt by omega) (show a3.toInt ≤ p by omega) (show p ≤ n by omega)
  obtain ⟨⟨m7, _⟩, ⟨m8, _⟩, m9, _⟩ := zh_m (φ := φ) hSl (show 0 ≤ p by omega) (show p ≤ zg en (bs + k) by omega) (by omega)
  have hx : φ = 0 → zhX φ a3.toInt + 4 ≤ zhX φ p := fun e => by
    have x1 : zhX φ a3.toInt = 4 * a3.toInt := if_pos e
    have x2 : zhX φ p = 4 * p := if_pos e
    omega
  have rp : zRg (zsh so bs φ τ σ0.1 p (zg en (bs + k)) (zqf φ) 0 (2 * zqf φ)) := by
    obtain ⟨y1, y2, y3, y4, y5⟩ := r1
    refine ⟨?_, ?_, ?_, ?_, y5⟩
    · have := rt.1; show 0 ≤ τ.2.1 + _ - _ + zqf φ; omega
    · have := rt.2.1; show 0 ≤ τ.2.2.1 + _ - _ + 0; omega
    · have := rt.2.2.1; show 0 ≤ τ.2.2.2 + _ - _ + 2 * zqf φ; omega
    · have y4 : τ.2.2.2 + zhX φ (zg en (bs + k)) - zhX φ a3.toInt + 2 * zqf φ ≤ 1000 := y4
      show τ.2.2.2 + _ - _ + 2 * zqf φ ≤ 1000; omega
  have p9 := zW_n hW (zsh so bs φ τ σ0.1 p (zg en (bs + k)) (zqf φ) 0 (2 * zqf φ)) hl (d1' := lb) (d2' := -1) (fun l l0 z => by omega) (Int.le_refl _)
  have el : (fun l => if l = lb then zsh so bs φ τ σ0.1 p (zg en (bs + k)) (zqf φ) 0 (2 * zqf φ) else Λ1 l) lb = zsh so bs φ τ σ0.1 p (zg en (bs + k)) (zqf φ) 0 (2 * zqf φ) := if_pos rfl
  have ell : (fun l => if l = lb then zsh so bs φ τ σ0.1 p (zg en (bs + k)) (zqf φ) 0 (2 * zqf φ) else Λ1 l) ll = τ := by show (if ll = lb then _ else _) = _; rw [if_neg (by omega)]; exact l1
  have p1 := zW_p p9 e11 e12 e13 (by rw [ho1, ha1]; exact Or.inr (Or.inl ⟨rfl, ⟨by omega, by omega⟩, el.symm, rfl⟩)) rp (d1' := -1) (d2' := -1) (fun l l0 _ z => by omega) (m' := i2.toInt) (by omega) (Int.le_refl _) (Int.le_refl _)
  have p2 := zW_p (ρ' := zsh so bs φ τ σ0.1 p (zg en (bs + k)) 0 0 (zqf φ)) p1 e21 e22 e23 (by
    rw [ho2, ha2]
    refine zO_5 ⟨by omega, by omega⟩ ⟨by omega, by omega, ?_⟩
    rw [if_neg (show ¬ (ll = lb) by omega), l1]; refine ⟨g1, fun e => ⟨?_, ?_, ?_⟩⟩
    · show τ.2.1 ≤ τ.2.1 + _ - _ + 0; omega
    · show τ.2.2.1 ≤ τ.2.2.1 + _ - _ + 0; omega
    · have := u2 e; show τ.2.2.2 ≤ τ.2.2.2 + _ - _ + zqf φ - 1; omega) r3 (d1' := -1) (d2' := -1) (fun l l0 _ z => Or.inl z) (m' := i3.toInt) (by omega) (Int.le_refl _) (Int.le_refl _)
  have nt := zNt_c (φ := φ) (τ := τ) (e := zg en (bs + k)) (u := 0) (r := 0) (x := zqf φ) (u' := 0) (r' := 0) (x' := zqf φ) hSl ck (by omega) (by omega) (Int.le_refl _) (Int.le_refl _) (Int.le_refl _)
  rw [ce] at nt
  have p3 := zW_p (ρ' := zsh so bs φ τ σ0.1 a3.toInt (zg en (bs + k)) 0 0 (zqf φ)) p2 e31 e32 e33 (by rw [ho3]; exact Or.inl ⟨rfl, nt⟩) r2 (d1' := -1) (d2' := -1) (fun l l0 _ z => Or.inl z) (m' := i4.toInt) (by omega) (Int.le_refl _) (Int.le_refl _)
  have d1 : zc1 Z o1.toInt a1.toInt = 1 := zc1_o (by omega)
  have d2 : zc1 Z o2.toInt a2.toInt = 1 := zc1_o (by omega)
  have d3 : zc1 Z o3.toInt a3.toInt = 12 * Z a3.toInt - 4 := by rw [ho3]; exact zc1_n
  have d4 : zc1 Z o4.toInt a4.toInt = 1 := zc1_o (by omega)
  have f1 : zc2 Z o1.toInt a1.toInt = 0 := by rw [ho1]; rfl
  have f2 : zc2 Z o2.toInt a2.toInt = 1 := by rw [ho2]; rfl
  have f3 : zc2 Z o3.toInt a3.toInt = 4 * Z a3.toInt - 3 := by rw [ho3]; exact zc2_n
  have f4 : zc2 Z o4.toInt a4.toInt = 1 := by rw [ho4]; rfl
  subst hp
  refine ⟨_, B + zc2 Z o1.toInt a1.toInt + zc2 Z o2.toInt a2.toInt + zc2 Z o3.toInt a3.toInt + zc2 Z o4.toInt a4.toInt, ell, ⟨by omega, by omega⟩, zW_p p3 e41 e42 e43 ?_ r1 (fun l l0 _ z => Or.inl z) hm (by omega) (Int.le_refl _), fun e => by have := hB e; omega⟩
  rw [ho4, ha4]
  refine zO_3 ⟨by omega, by omega⟩ rfl (fun e => ⟨?_, ?_, ?_⟩) ⟨by omega, by omega, ?_⟩
  · have := u2 e; show τ.2.1 + _ - _ + 0 ≤ τ.2.1 + _ - _ + zqf φ + (-1); omega
  · show τ.2.2.1 + _ - _ + 0 ≤ τ.2.2.1 + _ - _ + 0 + 0; omega
  · have := u2 e; show τ.2.2.2 + _ - _ + zqf φ ≤ τ.2.2.2 + _ - _ + 2 * zqf φ - 1; omega
  · rw [if_pos rfl]; refine ⟨rfl, fun e => ⟨?_, ?_, ?_⟩⟩
    · show τ.2.1 + _ - _ + zqf φ ≤ τ.2.1 + _ - _ + zqf φ; omega
    · show τ.2.2.1 + _ - _ + 0 ≤ τ.2.2.1 + _ - _ + 0; omega
    · have := hx e; show τ.2.2.2 + _ - _ + 2 * zqf φ ≤ τ.2.2.2 + _ - _ + 2 * zqf φ - 1; omega
theorem zCi_e {so va en ac aA aB la ta tA tB he : Nat → Int32} {Z : Int → Int} {bs n φ N lb m nn j k : Int} {C : Int → zT} {σ τ : zT} {G : List (Int × Int)} {ll e B1 B2 : Int} (h : zCi so va en ac aA aB la ta tA tB Z bs n φ N lb m C σ τ G ll (zg he (j + 1)) e B1 B2) (hH : zHe he en bs nn k e) (hn : 1 ≤ nn) (hj : j = -1) : zCi so va en ac aA aB la ta tA tB Z bs n φ N lb m C σ τ G ll (k + 1) e B1 B2 := by
  have e1 := hH.2.1 hn
  rw [show j + 1 = 0 by omega, e1] at h
  exact h
theorem zC_f {so va le mo ho pa en fp pb pe ac aA aB la ta tA tB ta0 tA0 tB0 : Nat → Int32} {Z : Int → Int} {bs q n c φ N lb0 lb m0 m ll : Int} {C Λ : Int → zT} {σ σ0 τ : zT} {k B1 B2 : Int} (h0 : zND so va le mo ho pa en fp pb pe ac aA aB la ta0 tA0 tB0 Z bs q n c φ N lb0 m0 C Λ σ σ0 τ k B1 B2) (h : zCi so va en ac aA aB la ta tA tB Z bs n φ N lb m C σ τ σ0.1 ll (k + 1) (zg en (bs + k)) B1 B2) (hs : zg so (bs + k) = 6) (p1 : φ = 1) : zWp so va en ac aA aB la ta tA tB Z bs n φ N lb m C σ k B1 B2 := by
  obtain ⟨Λ1, B, _, _, hW, hB⟩ := h
  obtain ⟨⟨hφ, _⟩, hSl, hZ, hz, hN, hge, r0, rt, _⟩ := h0
  have zz := ((hZ k hN.1.1 hN.1.2).2 hz).1 (Or.inr (by omega))
  have hB := hB p1
  exact zW_o hW (zge_tr hge ⟨rfl, fun e => by omega⟩) (by omega) (fun _ => by omega)
theorem zC_n {so va le mo ho pa en fp pb pe ac aA aB la ta tA tB ta0 tA0 tB0 ta1 tA1 tB1 : Nat → Int32} {Z : Int → Int} {bs q n c φ N lb0 lb m0 m' ll : Int} {C Λ : Int → zT} {σ σ0 τ : zT} {k B1 B2 : Int} {i o1 a1 b1 : Int32} (h0 : zND so va le mo ho pa en fp pb pe ac aA aB la ta0 tA0 tB0 Z bs q n c φ N lb0 m0 C Λ σ σ0 τ k B1 B2) (h : zCi so va en ac aA aB la ta tA tB Z bs n φ N lb i.toInt C σ τ σ0.1 ll (k + 1) (zg en (bs + k)) B1 B2) (e1 : ta1 = upd ta i.toNatClampNeg o1) (e2 : tA1 = upd tA i.toNatClampNeg a1) (e3 : tB1 = upd tB i.toNatClampNeg b1) (hs : zg so (bs + k) = 6) (p0 : φ = 0) (ho1 : o1.toInt = 21) (ha1 : a1.toInt = 0) (hm : m' = i.toInt + 1) : zWp so va en ac aA aB la ta1 tA1 tB1 Z bs n φ N lb m' C σ k B1 B2 := by
  obtain ⟨Λ1, B, _, _, hW, hB⟩ := h
  obtain ⟨⟨hφ, _⟩, hSl, hZ, hz, hN, hge, r0, rt, _⟩ := h0
  obtain ⟨⟨k0, k1⟩, ck, g1, n1, n2, n3⟩ := hN
  have zz := ((hZ k k0 k1).2 hz).1 (Or.inr (by omega))
  obtain ⟨q1, q2, q3, q4, q5⟩ := zh_q (φ := φ) hSl k0 k1 hφ
  obtain ⟨u0, u1, u2⟩ := @zqf_b φ
  have u2 := u2 p0
  have c1 : zc1 Z o1.toInt a1.toInt = 1 := zc1_o (by omega)
  have s1 := r0.2.2.2.1
  refine zW_o (zW_p (ρ' := σ0) hW e1 e2 e3 ?_ r0 (d1' := -1) (d2' := -1) (fun l l0 _ z => Or.inl z) hm (Int.le_refl _) (Int.le_refl _)) hge (by omega) (fun e => by omega)
  rw [ho1, ha1]
  refine zO_21 ⟨by omega, by omega⟩ rfl (fun _ => ⟨?_, ?_, ?_⟩) p0
  · show τ.2.1 + _ - _ + zqf φ ≤ σ0.2.1 + 52; omega
  · show τ.2.2.1 + _ - _ + 0 ≤ σ0.2.2.1 + 33; omega
  · show τ.2.2.2 + _ - _ + 2 * zqf φ ≤ 1000; omega
def zT0 (le mo : Nat → Int32) (g : Int) : Int := if zg mo g = -1 then 1 else zg mo g - zg le g
def zT1 (mo : Nat → Int32) (g : Int) : Int := if zg mo g = -1 then 1 else 0
def zCp (so va en ac aA aB la ta tA tB : Nat → Int32) (Z : Int → Int) (bs n φ N lb m : Int) (C : Int → zT) (σ τ : zT) (ll k t B1 B2 : Int) : Prop := ∃ (Λ : Int → zT) (B : Int), Λ ll = τ ∧ (0 ≤ ll ∧ ll < lb) ∧ zW so va en ac aA aB la ta tA tB Z bs n φ N lb m C Λ σ τ (-1) (-1) (B1 + 6 + 12 * (t * Z (k + 1))) B ∧ B ≤ B2 + 4 * (t * Z (k + 1))
theorem zN_lm {so va le mo ho pa en fp pb pe ac aA aB la ta tA tB : Nat → Int32} {Z : Int → Int} {bs q n c φ N lb m : Int} {C Λ : Int → zT} {σ σ0 τ : zT} {k B1 B2 : Int} (h : zND so va le mo ho pa en fp pb pe ac aA aB la ta tA tB Z bs q n c φ N lb m C Λ σ σ0 τ k B1 B2) : (0 ≤ zg le (bs + k) ∧ zg le (bs + k) ≤ 20) ∧ (-1 ≤ zg mo (bs + k) ∧ zg mo (bs + k) ≤ 20) ∧ (zg mo (bs + k) = -1 ∨ zg le (bs + k) ≤ zg mo (bs + k)) := by
  obtain ⟨_, hSl, _, _, hN, _⟩ := h
  obtain ⟨p, _, ⟨_, _, d3, d4, d5, d6, _⟩, _⟩ := zS_nd hSl hN.1.1 hN.1.2
  exact ⟨⟨d3, d4⟩, ⟨d5, d6.1⟩, d6.2⟩
theorem zNt_f {so va le mo ho pa en fp pb pe ac aA aB la ta tA tB : Nat → Int32} {Z : Int → Int} {bs q n c φ N lb m : Int} {C Λ : Int → zT} {σ σ0 τ : zT} {k B1 B2 : Int} (h : zND so va le mo ho pa en fp pb pe ac aA aB la ta tA tB Z bs q n c φ N lb m C Λ σ σ0 τ k B1 B2) (hs : zg so (bs + k) = 7) (p1 : φ = 1) : zNt so va en bs n φ (k + 1) τ τ ∧ zRg τ ∧ 1 ≤ Z (k + 1) ∧ 1 + zby so le mo (bs + k) * Z (k + 1) ≤ Z k ∧ zge φ σ τ ∧ 0 ≤ lb ∧ n ≤ 220 ∧ (0 ≤ k ∧ k + 1 < n) := by
  obtain ⟨⟨x0, x1, x2⟩, _⟩ := zN_1 h (by omega)
  obtain ⟨_, hSl, hZ, hz, hN, hge, r0, rt, hW⟩ := h
  obtain ⟨⟨k0, k1⟩, ck, g1, n1, n2, n3⟩ := hN
  have q : ∀ y : Int, zhL so bs φ y = 0 ∧ zhC so bs φ y = 0 ∧ zhX φ y = 0 := fun y => ⟨if_neg (by omega), if_neg (by omega), if_neg (by omega)⟩
  refine ⟨⟨⟨by omega, x1⟩, by rw [g1]; exact zCk_m (by omega) ck, rfl, ?_, ?_, ?_⟩, rt, (hZ _ (by omega) x1).1, ((hZ k k0 k1).2 hz).2 p1 hs, zge_tr hge ⟨g1, fun e => by omega⟩, hW.2.1, x2, ⟨x0, x1⟩⟩
  · rw [(q _).1, (q _).1]; omega
  · rw [(q _).2.1, (q _).2.1]; omega
  · rw [(q _).2.2, (q _).2.2]; omega
theorem zCp_0 {so va le mo ho pa en fp pb pe ac aA aB la ta tA tB ta1 tA1 tB1 : Nat → Int32} {Z : Int → Int} {bs q n c φ N lb lb' m' ll : Int} {C Λ : Int → zT} {σ σ0 τ : zT} {k t B1 B2 : Int} {i o1 a1 b1 : Int32} (h : zND so va le mo ho pa en fp pb pe ac aA aB la ta tA tB Z bs q n c φ N lb i.toInt C Λ σ σ0 τ k B1 B2) (e1 : ta1 = upd ta i.toNatClampNeg o1) (e2 : tA1 = upd tA i.toNatClampNeg a1) (e3 : tB1 = upd tB i.toNatClampNeg b1) (hs : zg so (bs + k) = 7) (p1 : φ = 1) (ho1 : o1.toInt = 101) (ha1 : a1.toInt = lb) (hl : lb' = lb + 1) (hm : m' = i.toInt + 1) (hll : ll = lb) (ht : t = 0) : ∃ (Λ : Int → zT) (B : Int), Λ ll = τ ∧ (0 ≤ ll ∧ ll < lb') ∧ zW so va en ac aA aB la ta1 tA1 tB1 Z bs n φ N lb' m' C Λ σ τ (-1) (-1) (B1 + 2 + 12 * (t * Z (k + 1))) B ∧ B ≤ B2 + 4 * (t * Z (k + 1)) := by
  obtain ⟨_, rt, _, _, _, lb0, _⟩ := zNt_f h hs p1
  obtain ⟨_, _, _, _, _, _, _, _, hW⟩ := h
  subst hll; subst ht
  rw [Int.zero_mul]
  have p9 := zW_n hW τ hl (d1' := ll) (d2' := -1) (fun l l0 z => by omega) (Int.le_refl _)
  have el : (fun l => if l = ll then τ else Λ l) ll = τ := if_pos rfl
  have d3 : zc2 Z o1.toInt a1.toInt = 0 := by rw [ho1]; rfl
  have d1 : zc1 Z o1.toInt a1.toInt = 1 := zc1_o (by omega)
  exact ⟨_, B2 + zc2 Z o1.toInt a1.toInt, el, ⟨lb0, by omega⟩, zW_p p9 e1 e2 e3 (by rw [ho1, ha1]; exact Or.inr (Or.inl ⟨rfl, ⟨lb0, by omega⟩, el.symm, rfl⟩)) rt (fun l l0 _ z => by omega) hm (by omega) (Int.le_refl _), by omega⟩
theorem zCp_n {so va le mo ho pa en fp pb pe ac aA aB la ta tA tB ta0 tA0 tB0 ta1 tA1 tB1 : Nat → Int32} {Z : Int → Int} {bs q n c φ N lb lb0 m0 m' ll : Int} {C Λ : Int → zT} {σ σ0 τ : zT} {k t t' B1 B2 : Int} {i o1 a1 b1 : Int32} (h0 : zND so va le mo ho pa en fp pb pe ac aA aB la ta0 tA0 tB0 Z bs q n c φ N lb0 m0 C Λ σ σ0 τ k B1 B2) (h : zCp so va en ac aA aB la ta tA tB Z bs n φ N lb i.toInt C σ τ ll k t B1 B2) (e1 : ta1 = upd ta i.toNatClampNeg o1) (e2 : tA1 = upd tA i.toNatClampNeg a1) (e3 : tB1 = upd tB i.toNatClampNeg b1) (hs : zg so (bs + k) = 7) (p1 : φ = 1) (ho1 : o1.toInt = 100) (ha1 : a1.toInt = k + 1) (hm : m' = i.toInt + 1) (ht : t' = t + 1) : zCp so va en ac aA aB la ta1 tA1 tB1 Z bs n φ N lb m' C σ τ ll k t' B1 B2 := by
  obtain ⟨nt, rt, z1, _⟩ := zNt_f h0 hs p1
  obtain ⟨Λ1, B, l1, l2, hW, hB⟩ := h
  subst ht
  rw [zCp, Int.add_mul, Int.one_mul]
  have d1 : zc1 Z o1.toInt a1.toInt = 12 * Z (k + 1) - 4 := by rw [ho1, ha1]; exact zc1_n
  have d2 : zc2 Z o1.toInt a1.toInt = 4 * Z (k + 1) - 3 := by rw [ho1, ha1]; exact zc2_n
  exact ⟨Λ1, B + zc2 Z o1.toInt a1.toInt, l1, l2, zW_p hW e1 e2 e3 (by rw [ho1, ha1]; exact Or.inl ⟨rfl, nt⟩) rt (fun l l0 _ z => Or.inl z) hm (by omega) (Int.le_refl _), by omega⟩
theorem zCp_s {so va le mo ho pa en fp pb pe ac aA aB la ta tA tB ta0 tA0 tB0 ta1 tA1 tB1 ta2 tA2 tB2 : Nat → Int32} {Z : Int → Int} {bs q n c φ N lb lb0 m0 m' ll : Int} {C Λ : Int → zT} {σ σ0 τ : zT} {k t t' B1 B2 : Int} {i i2 o1 a1 b1 o2 a2 b2 : Int32} (h0 : zND so va le mo ho pa en fp pb pe ac aA aB la ta0 tA0 tB0 Z bs q n c φ N lb0 m0 C Λ σ σ0 τ k B1 B2) (h : zCp so va en ac aA aB la ta tA tB Z bs n φ N lb i.toInt C σ τ ll k t B1 B2) (e1 : ta1 = upd ta i.toNatClampNeg o1) (e2 : tA1 = upd tA i.toNatClampNeg a1) (e3 : tB1 = upd tB i.toNatClampNeg b1) (e4 : ta2 = upd ta1 i2.toNatClampNeg o2) (e5 : tA2 = upd tA1 i2.toNatClampNeg a2) (e6 : tB2 = upd tB1 i2.toNatClampNeg b2) (hs : zg so (bs + k) = 7) (p1 : φ = 1) (ho1 : o1.toInt = 100) (ho2 : o2.toInt = 3 ∨ o2.toInt = 4) (ha1 : a1.toInt = k + 1) (ha2 : a2.toInt = ll) (hi : i2.toInt = i.toInt + 1) (hm : m' = i2.toInt + 1) (hlb : lb < 3000) (ht : t' = t + 1) : zCp so va en ac aA aB la ta2 tA2 tB2 Z bs n φ N lb m' C σ τ ll k t' B1 B2 := by
  obtain ⟨nt, rt, z1, _⟩ := zNt_f h0 hs p1
  obtain ⟨Λ1, B, l1, l2, hW, hB⟩ := h
  subst ht
  rw [zCp, Int.add_mul, Int.one_mul]
  have d1 : zc1 Z o1.toInt a1.toInt = 12 * Z (k + 1) - 4 := by rw [ho1, ha1]; exact zc1_n
  have d2 : zc2 Z o1.toInt a1.toInt = 4 * Z (k + 1) - 3 := by rw [ho1, ha1]; exact zc2_n
  have d3 : zc1 Z o2.toInt a2.toInt = 1 := zc1_o (by omega)
  have d4 := zc2_o (Z := Z) (a := a2.toInt) (show o2.toInt ≤ 21 by omega)
  rw [if_neg (by omega)] at d4
  have p1' := zW_p (ρ' := τ) hW e1 e2 e3 (by rw [ho1, ha1]; exact Or.inl ⟨rfl, nt⟩) rt (d1' := -1) (d2' := -1) (fun l l0 _ z => Or.inl z) (m' := i2.toInt) (by omega) (Int.le_refl _) (Int.le_refl _)
  refine ⟨Λ1, B + zc2 Z o1.toInt a1.toInt + zc2 Z o2.toInt a2.toInt, l1, l2, zW_p (ρ' := τ) p1' e4 e5 e6 ?_ rt (fun l l0 _ z => Or.inl z) hm (by omega) (Int.le_refl _), by omega⟩
  rw [ha2]
  rcases ho2 with e | e <;> rw [e]
  · exact zO_3 ⟨by omega, by omega⟩ rfl (fun z => by omega) ⟨l2.1, l2.2, by rw [l1]; exact ⟨rfl, fun z => by omega⟩⟩
  · exact zO_4 ⟨by omega, by omega⟩ rfl (fun z => by omega) ⟨l2.1, l2.2, by rw [l1]; exact ⟨rfl, fun z => by omega⟩⟩ p1
theorem zCp_a {so va le mo ho pa en fp pb pe ac aA aB la ta tA tB ta0 tA0 tB0 ta1 tA1 tB1 ta2 tA2 tB2 ta3 tA3 tB3 ta4 tA4 tB4 : Nat → Int32} {Z : Int → Int} {bs q n c φ N lb lb' lb0 m0 m' ll : Int} {C Λ : Int → zT} {σ σ0 τ : zT} {k t t' B1 B2 : Int} {i1 i2 i3 i4 o1 a1 b1 o2 a2 b2 o3 a3 b3 o4 a4 b4 : Int32} (h0 : zND so va le mo ho pa en fp pb pe ac aA aB la ta0 tA0 tB0 Z bs q n c φ N lb0 m0 C Λ σ σ0 τ k B1 B2) (h : ∃ (Λ : Int → zT) (B : Int), Λ ll = τ ∧ (0 ≤ ll ∧ ll < lb) ∧ zW so va en ac aA aB la ta tA tB Z bs n φ N lb i1.toInt C Λ σ τ (-1) (-1) (B1 + 2 + 12 * (t * Z (k + 1))) B ∧ B ≤ B2 + 4 * (t * Z (k + 1))) (e11 : ta1 = upd ta i1.toNatClampNeg o1) (e12 : tA1 = upd tA i1.toNatClampNeg a1) (e13 : tB1 = upd tB i1.toNatClampNeg b1) (e21 : ta2 = upd ta1 i2.toNatClampNeg o2) (e22 : tA2 = upd tA1 i2.toNatClampNeg a2) (e23 : tB2 = upd tB1 i2.toNatClampNeg b2) (e31 : ta3 = upd ta2 i3.toNatClampNeg o3) (e32 : tA3 = upd tA2 i3.toNatClampNeg a3) (e33 : tB3 = upd tB2 i3.toNatClampNeg b3) (e41 : ta4 = upd ta3 i4.toNatClampNeg o4) (e42 : tA4 = upd tA3 i4.toNatClampNeg a4) (e43 : tB4 = upd tB3 i4.toNatClampNeg b4) (hs : zg so (bs + k) = 7) (p1 : φ = 1) (ho : o1.toInt = 5 ∧ o2.toInt = 100 ∧ (o3.toInt = 3 ∨ o3.toInt = 4) ∧ o4.toInt = 101) (ha : a1.toInt = lb ∧ a2.toInt = k + 1 ∧ a3.toInt = ll ∧ a4.toInt = lb) (hl : lb' = lb + 1) (hi : i2.toInt = i1.toInt + 1 ∧ i3.toInt = i2.toInt + 1 ∧ i4.toInt = i3.toInt + 1 ∧ m' = i4.toInt + 1) (hlb : lb + 1 < 3000) (ht0 : t = 0) (ht : t' = 1) : zCp so va en ac aA aB la ta4 tA4 tB4 Z bs n φ N lb' m' C σ τ ll k t' B1 B2 := by
  obtain ⟨nt, rt, z1, _⟩ := zNt_f h0 hs p1
  obtain ⟨Λ1, B, l1, l2, hW, hB⟩ := h
  obtain ⟨ho1, ho2, ho3, ho4⟩ := ho
  obtain ⟨ha1, ha2, ha3, ha4⟩ := ha
  obtain ⟨hi2, hi3, hi4, hm⟩ := hi
  subst ht; subst ht0
  rw [Int.zero_mul] at hW hB
  rw [zCp, Int.one_mul]
  have p9 := zW_n hW τ hl (d1' := lb) (d2' := -1) (fun l l0 z => by omega) (Int.le_refl _)
  have el : (fun l => if l = lb then τ else Λ1 l) lb = τ := if_pos rfl
  have ell : (fun l => if l = lb then τ else Λ1 l) ll = τ := by show (if ll = lb then _ else _) = _; rw [if_neg (by omega)]; exact l1
  have q1 := zW_p (ρ' := τ) p9 e11 e12 e13 (by rw [ho1, ha1]; exact zO_5 ⟨by omega, by omega⟩ ⟨by omega, by omega, by rw [if_pos rfl]; exact ⟨rfl, fun z => by omega⟩⟩) rt (d1' := lb) (d2' := -1) (fun l l0 _ z => Or.inl z) (m' := i2.toInt) (by omega) (Int.le_refl _) (Int.le_refl _)
  have q2 := zW_p (ρ' := τ) q1 e21 e22 e23 (by rw [ho2, ha2]; exact Or.inl ⟨rfl, nt⟩) rt (d1' := lb) (d2' := -1) (fun l l0 _ z => Or.inl z) (m' := i3.toInt) (by omega) (Int.le_refl _) (Int.le_refl _)
  have q3 := zW_p (ρ' := τ) q2 e31 e32 e33 (by
    rw [ha3]
    have hz : zn φ τ.1 ((fun l => if l = lb then τ else Λ1 l) ll) τ.2.1 τ.2.2.1 (τ.2.2.2 - 1) := by rw [ell]; exact ⟨rfl, fun z => by omega⟩
    rcases ho3 with e | e <;> rw [e]
    · exact zO_3 ⟨by omega, by omega⟩ rfl (fun z => by omega) ⟨l2.1, by omega, hz⟩
    · exact zO_4 ⟨by omega, by omega⟩ rfl (fun z => by omega) ⟨l2.1, by omega, hz⟩ p1) rt (d1' := lb) (d2' := -1) (fun l l0 _ z => Or.inl z) (m' := i4.toInt) (by omega) (Int.le_refl _) (Int.le_refl _)
  have d1 : zc1 Z o1.toInt a1.toInt = 1 := zc1_o (by omega)
  have d2 : zc1 Z o2.toInt a2.toInt = 12 * Z (k + 1) - 4 := by rw [ho2, ha2]; exact zc1_n
  have d3 : zc1 Z o3.toInt a3.toInt = 1 := zc1_o (by omega)
  have d4 : zc1 Z o4.toInt a4.toInt = 1 := zc1_o (by omega)
  have f1 : zc2 Z o1.toInt a1.toInt = 1 := by rw [ho1]; rfl
  have f2 : zc2 Z o2.toInt a2.toInt = 4 * Z (k + 1) - 3 := by rw [ho2, ha2]; exact zc2_n
  have f3 := zc2_o (Z := Z) (a := a3.toInt) (show o3.toInt ≤ 21 by omega)
  rw [if_neg (by omega)] at f3
  have f4 : zc2 Z o4.toInt a4.toInt = 0 := by rw [ho4]; rfl
  exact ⟨_, B + zc2 Z o1.toInt a1.toInt + zc2 Z o2.toInt a2.toInt + zc2 Z o3.toInt a3.toInt + zc2 Z o4.toInt a4.toInt, ell, ⟨by omega, by omega⟩, zW_p (ρ' := τ) q3 e41 e42 e43 (by rw [ho4, ha4]; exact Or.inr (Or.inl ⟨rfl, ⟨by omega, by omega⟩, el.symm, rfl⟩)) rt (fun l l0 _ z => by omega) hm (by omega) (Int.le_refl _), by omega⟩
theorem zCp_w {so va en ac aA aB la ta tA tB : Nat → Int32} {Z : Int → Int} {bs n φ N lb m : Int} {C : Int → zT} {σ τ : zT} {ll k t B1 B2 : Int} (h : ∃ (Λ : Int → zT) (B : Int), Λ ll = τ ∧ (0 ≤ ll ∧ ll < lb) ∧ zW so va en ac aA aB la ta tA tB Z bs n φ N lb m C Λ σ τ (-1) (-1) (B1 + 2 + 12 * (t * Z (k + 1))) B ∧ B ≤ B2 + 4 * (t * Z (k + 1))) : zCp so va en ac aA aB la ta tA tB Z bs n φ N lb m C σ τ ll k t B1 B2 := by
  obtain ⟨Λ1, B, l1, l2, ⟨h1, h2, h3, h4, h5, h6⟩, hB⟩ := h
  exact ⟨Λ1, B, l1, l2, ⟨h1, h2, h3, h4, by omega, h6⟩, hB⟩
theorem zCp_e {so va le mo ho pa en fp pb pe ac aA aB la ta tA tB ta0 tA0 tB0 : Nat → Int32} {Z : Int → Int} {bs q n c φ N lb lb0 m0 m ll : Int} {C Λ : Int → zT} {σ σ0 τ : zT} {k t B1 B2 : Int} (h0 : zND so va le mo ho pa en fp pb pe ac aA aB la ta0 tA0 tB0 Z bs q n c φ N lb0 m0 C Λ σ σ0 τ k B1 B2) (h : zCp so va en ac aA aB la ta tA tB Z bs n φ N lb m C σ τ ll k t B1 B2) (hs : zg so (bs + k) = 7) (p1 : φ = 1) (ht : t = zT0 le mo (bs + k) + zg le (bs + k)) : zWp so va en ac aA aB la ta tA tB Z bs n φ N lb m C σ k B1 B2 := by
  obtain ⟨_, _, z1, zz, hge, _⟩ := zNt_f h0 hs p1
  obtain ⟨lm1, lm2, lm3⟩ := zN_lm h0
  obtain ⟨Λ1, B, _, _, hW, hB⟩ := h
  have tb : t ≤ zby so le mo (bs + k) := by
    subst ht
    unfold zT0 zby
    rw [if_pos hs]
    split
    · omega
    · split <;> omega
  have mm : t * Z (k + 1) ≤ zby so le mo (bs + k) * Z (k + 1) := Int.mul_le_mul_of_nonneg_right tb (by omega)
  exact zW_o hW hge (by omega) (fun _ => by omega)
theorem zT_e {le mo : Nat → Int32} {g L L' : Int} (h : L = zg le g ∨ L ≤ zg mo g) (h1 : zg le g ≤ L) (h2 : zg mo g ≤ L) (h3 : zg mo g = -1 ∨ zg le g ≤ zg mo g) (h4 : 0 ≤ zg le g) (h5 : L' = 0) : zT1 mo g + (L - zg le g) = zT0 le mo g + L' := by
  unfold zT1 zT0
  by_cases e : zg mo g = -1
  · rw [if_pos e, if_pos e]; omega
  · rw [if_neg e, if_neg e]; omega
