theorem zCo_g {so va ac aA aB la : Nat → Int32} {bs n φ N : Int} (h : zCo so va ac aA aB la bs n φ N) : zPg ac aA la N ∧ (1 ≤ N ∧ N ≤ 2999) ∧ ∀ p : Int, 0 ≤ p → p < N → zg ac p = 0 → (0 ≤ zg aA p ∧ zg aA p < n) ∧ zg so (bs + zg aA p) ≤ 2 ∧ p + 1 < N := by
  obtain ⟨C, hPr, _, _⟩ := h
  obtain ⟨⟨n1, n2, _, _⟩, lb, l1, l2, l3⟩ := hPr
  refine ⟨fun a a0 a1 => ?_, ⟨n1, n2⟩, fun p p0 p1 e => ?_⟩
  · obtain ⟨⟨sd, _⟩, _, nx⟩ := l3 a a0 a1
    refine ⟨fun _ z2 _ => nx z2, fun z => ?_⟩
    have q := zSd_l sd (by omega)
    have r := l2 _ q.1 q.2.1
    exact ⟨⟨q.1, by omega⟩, r⟩
  · obtain ⟨⟨sd, _⟩, _, nx⟩ := l3 p p0 p1
    have q := sd.2.1 (by omega)
    exact ⟨q, sd.2.2.1 e, nx (by omega)⟩
theorem zcE_m {ac : Nat → Int32} {a N : Int} (h0 : 0 ≤ a) (h : a ≤ N) : zcE ac a ≤ zcE ac N := zsm_mono (fun k => by split <;> decide) (by omega)
theorem zcE_a {ac : Nat → Int32} {a : Int} (h0 : 0 ≤ a) : zcE ac (a + 1) = zcE ac a + (if zg ac a = 0 then 1 else 0) := zsm_add h0
def zEa (so ac aA eo en9 : Nat → Int32) (bs n a m : Int) : Prop := m = zcE ac a ∧ (∀ p : Int, 0 ≤ p → p < a → zg ac p = 0 → 0 ≤ zg eo p ∧ zg eo p < m) ∧ (∀ e : Int, 0 ≤ e → e < m → (bs ≤ zg en9 e ∧ zg en9 e < bs + n) ∧ zg so (zg en9 e) ≤ 2)
theorem zEa_0 {so ac aA eo en9 : Nat → Int32} {bs n a m : Int} (ha : a ≤ 0) (hm : m = 0) : zEa so ac aA eo en9 bs n a m := ⟨by rw [zcE_z ha]; exact hm, fun p p0 p1 => by omega, fun e e0 e1 => by omega⟩
theorem zEa_n {so ac aA eo en9 : Nat → Int32} {bs n a' m : Int} {a x : Int32} (h : zEa so ac aA eo en9 bs n a.toInt m) (ex : x = ac a.toNatClampNeg) (hx : x.toInt ≠ 0) (h0 : 0 ≤ a.toInt) (ha : a' = a.toInt + 1) : zEa so ac aA eo en9 bs n a' m := by
  subst ha
  have g := zg_at ex
  refine ⟨by rw [zcE_a h0, if_neg (by omega), Int.add_zero]; exact h.1, fun p p0 p1 e => ?_, h.2.2⟩
  by_cases q : p = a.toInt
  · rw [q] at e; omega
  · exact h.2.1 p p0 (by omega) e
theorem zEa_s {so va ac aA aB la eo en9 eo' en9' : Nat → Int32} {bs n φ N a' m' : Int} {a x i1 v1 i2 v2 y : Int32} (h : zEa so ac aA eo en9 bs n a.toInt v1.toInt) (hc : zCo so va ac aA aB la bs n φ N) (ex : x = ac a.toNatClampNeg) (hx : x.toInt = 0) (ey : y = aA a.toNatClampNeg) (e1 : eo' = upd eo i1.toNatClampNeg v1) (e2 : en9' = upd en9 i2.toNatClampNeg v2) (h0 : 0 ≤ a.toInt) (hN : a.toInt < N) (hi1 : i1.toInt = a.toInt) (hi2 : i2.toInt = v1.toInt) (hv2 : v2.toInt = bs + y.toInt) (hv1 : 0 ≤ v1.toInt) (ha : a' = a.toInt + 1) (hm : m' = v1.toInt + 1) : zEa so ac aA eo' en9' bs n a' m' := by
  subst ha; subst hm
  have g := zg_at ex
  have gy := zg_at ey
  obtain ⟨c1, c2, _⟩ := (zCo_g hc).2.2 a.toInt h0 hN (by omega)
  refine ⟨by rw [zcE_a h0, if_pos (by omega), ← h.1], fun p p0 p1 e => ?_, fun e e0 e1' => ?_⟩
  · by_cases q : p = a.toInt
    · rw [q, ← hi1, e1, zg_eq]; omega
    · rw [e1, zg_ne (by omega) p0 (by omega)]; have := h.2.1 p p0 (by omega) e; omega
  · by_cases q : e = v1.toInt
    · rw [q, ← hi2, e2, zg_eq, hv2, gy]; exact ⟨by omega, c2⟩
    · rw [e2, zg_ne (by omega) e0 (by omega)]; exact h.2.2 e e0 (by omega)
theorem zEa_x {so ac aA eo en9 : Nat → Int32} {bs n N m : Int} {a x i y : Int32} (h : zEa so ac aA eo en9 bs n N m) (ex : x = ac a.toNatClampNeg) (ey : y = eo i.toNatClampNeg) (hx : x.toInt = 0) (h0 : 0 ≤ a.toInt) (h1 : a.toInt < N) (hi : i.toInt = a.toInt) : 0 ≤ y.toInt ∧ y.toInt < m := by
  have g := zg_at ex
  rw [zg_at2 ey hi]; exact h.2.1 a.toInt h0 h1 (by omega)
theorem zEa_y {so ac aA eo en9 : Nat → Int32} {bs n N m : Int} {i y : Int32} (h : zEa so ac aA eo en9 bs n N m) (ey : y = en9 i.toNatClampNeg) (h0 : 0 ≤ i.toInt) (h1 : i.toInt < m) : (bs ≤ y.toInt ∧ y.toInt < bs + n) ∧ zg so y.toInt ≤ 2 := by
  rw [zg_at ey]; exact h.2.2 i.toInt h0 h1
def zTf (st cl ld co stω clω ldω coω : Nat → Int32) (t : Int) : Prop := t = 1 → zg stω 0 = zg st 0 ∧ zg clω 0 = zg cl 0 ∧ (∀ j : Int, 0 ≤ j → j < 30500 → zg ldω j = zg ld j) ∧ (∀ j : Int, 0 ≤ j → j < 3000 → zg coω j = zg co j)
theorem zTf_0 {st cl ld co : Nat → Int32} {t : Int} : zTf st cl ld co st cl ld co t := fun _ => ⟨rfl, rfl, fun _ _ _ => rfl, fun _ _ _ => rfl⟩
theorem zTf_st {st cl ld co stω clω ldω coω st2 : Nat → Int32} {t : Int} {i v : Int32} (h : zTf st cl ld co stω clω ldω coω t) (e : st2 = upd stω i.toNatClampNeg v) (hi : i.toInt = t) (h0 : 0 ≤ t) : zTf st cl ld co st2 clω ldω coω t := fun z => by
  obtain ⟨h1, h2⟩ := h z
  exact ⟨by rw [e, zg_ne (by omega) (by omega) (by omega)]; exact h1, h2⟩
theorem zTf_cl {st cl ld co stω clω ldω coω cl2 : Nat → Int32} {t : Int} {i v : Int32} (h : zTf st cl ld co stω clω ldω coω t) (e : cl2 = upd clω i.toNatClampNeg v) (hi : i.toInt = t) (h0 : 0 ≤ t) : zTf st cl ld co stω cl2 ldω coω t := fun z => by
  obtain ⟨h1, h2, h3⟩ := h z
  exact ⟨h1, by rw [e, zg_ne (by omega) (by omega) (by omega)]; exact h2, h3⟩
theorem zTf_ld {st cl ld co stω clω ldω coω ld2 : Nat → Int32} {t : Int} {i v : Int32} (h : zTf st cl ld co stω clω ldω coω t) (e : ld2 = upd ldω i.toNatClampNeg v) (hi : 30500 * t ≤ i.toInt) (h0 : 0 ≤ t) : zTf st cl ld co stω clω ld2 coω t := fun z => by
  obtain ⟨h1, h2, h3, h4⟩ := h z
  exact ⟨h1, h2, fun j j0 j1 => by rw [e, zg_ne (by omega) j0 (by omega)]; exact h3 j j0 j1, h4⟩
theorem zTf_co {st cl ld co stω clω ldω coω co2 : Nat → Int32} {t : Int} {i v : Int32} (h : zTf st cl ld co stω clω ldω coω t) (e : co2 = upd coω i.toNatClampNeg v) (hi : 3000 * t ≤ i.toInt) (h0 : 0 ≤ t) : zTf st cl ld co stω clω ldω co2 t := fun z => by
  obtain ⟨h1, h2, h3, h4⟩ := h z
  exact ⟨h1, h2, h3, fun j j0 j1 => by rw [e, zg_ne (by omega) j0 (by omega)]; exact h4 j j0 j1⟩
theorem zTf_tb {st cl ld co stω clω ldω coω : Nat → Int32} {t bm : Int} (h : zTf st cl ld co stω clω ldω coω t) (ht : t = 1) (hb : bm ≤ 3000) (hT : zTb st cl ld co 0 bm) : zTb stω clω ldω coω 0 bm := by
  obtain ⟨h1, h2, h3, h4⟩ := h ht
  obtain ⟨t1, t2, t3, t4⟩ := hT
  refine ⟨by rw [h1]; exact t1, by rw [h2]; exact t2, fun q c q0 q1 c0 c1 => ?_, fun b b0 b1 => ?_⟩
  · rw [h1] at q1; rw [h2] at c1
    rw [h1, h3 _ (by omega) (by omega)]; exact t3 q c q0 q1 c0 c1
  · rw [h2, h4 _ (by omega) (by omega)]; exact t4 b b0 b1
def zCl (cl co : Nat → Int32) (t b : Int) : Prop := (0 ≤ zg cl t ∧ zg cl t ≤ b) ∧ (1 ≤ b → 1 ≤ zg cl t) ∧ ∀ j : Int, 0 ≤ j → j < b → 0 ≤ zg co (3000 * t + j) ∧ zg co (3000 * t + j) < zg cl t
theorem zCl_0 {cl clω co : Nat → Int32} {t b : Int} {i v : Int32} (e : clω = upd cl i.toNatClampNeg v) (hi : i.toInt = t) (hv : v.toInt = 0) (hb : b = 0) : zCl clω co t b := by
  have g : zg clω t = 0 := by rw [e, ← hi, zg_eq]; exact hv
  exact ⟨by omega, fun z => by omega, fun j j0 j1 => by omega⟩
theorem zCl_s {cl co clω coω : Nat → Int32} {t bω : Int} {b i v j c : Int32} (h : zCl cl co t b.toInt) (e1 : clω = upd cl i.toNatClampNeg v) (e2 : coω = upd co j.toNatClampNeg c) (hv : (c.toInt + 1 ≤ v.toInt ∧ v.toInt ≤ b.toInt + 1) ∧ zg cl t ≤ v.toInt) (hi : i.toInt = t) (hj : j.toInt = 3000 * t + b.toInt) (hc : 0 ≤ c.toInt) (ht : 0 ≤ t) (h0 : 0 ≤ b.toInt) (hb : bω = b.toInt + 1) : zCl clω coω t bω := by
  subst hb
  have g : zg clω t = v.toInt := by rw [e1, ← hi, zg_eq]
  refine ⟨by rw [g]; omega, fun _ => by rw [g]; omega, fun k k0 k1 => ?_⟩
  rw [g]
  by_cases q : k = b.toInt
  · rw [q, ← hj, e2, zg_eq]; omega
  · rw [e2, zg_ne (by omega) (by omega) (by omega)]; have := h.2.2 k k0 (by omega); omega
def zLw (st cl ld : Nat → Int32) (t q c : Int) : Prop := (1 ≤ zg st t ∧ zg st t ≤ 60) ∧ (∀ p d : Int, 0 ≤ p → p < q → 0 ≤ d → d < zg cl t → 0 ≤ zg ld (30500 * t + 500 * p + d) ∧ zg ld (30500 * t + 500 * p + d) < zg st t) ∧ (∀ d : Int, 0 ≤ d → d < c → 0 ≤ zg ld (30500 * t + 500 * q + d) ∧ zg ld (30500 * t + 500 * q + d) < zg st t)
theorem zLw_0 {st stω cl ld : Nat → Int32} {t q c : Int} {i v : Int32} (e : stω = upd st i.toNatClampNeg v) (hi : i.toInt = t) (hv : v.toInt = 1) (hq : q ≤ 0) (hc : c ≤ 0) : zLw stω cl ld t q c := by
  have g : zg stω t = 1 := by rw [e, ← hi, zg_eq]; exact hv
  exact ⟨by omega, fun p d p0 p1 => by omega, fun d d0 d1 => by omega⟩
theorem zLw_c {st cl ld : Nat → Int32} {t q c c' : Int} (h : zLw st cl ld t q c) (hc : c' ≤ c) : zLw st cl ld t q c' := ⟨h.1, h.2.1, fun d d0 d1 => h.2.2 d d0 (by omega)⟩
theorem zLw_r {st cl ld : Nat → Int32} {t q qω c c' : Int} (h : zLw st cl ld t q c) (hc : zg cl t ≤ c) (hq : qω = q + 1) (hcω : c' ≤ 0) : zLw st cl ld t qω c' := by
  subst hq
  refine ⟨h.1, fun p d p0 p1 d0 d1 => ?_, fun d d0 d1 => by omega⟩
  by_cases e : p = q
  · subst e; exact h.2.2 d d0 (by omega)
  · exact h.2.1 p d p0 (by omega) d0 d1
theorem zLw_st {st stω cl ld : Nat → Int32} {t q c : Int} {i v : Int32} (h : zLw st cl ld t q c) (e : stω = upd st i.toNatClampNeg v) (hi : i.toInt = t) (hv : zg st t ≤ v.toInt ∧ v.toInt ≤ 60) : zLw stω cl ld t q c := by
  have g : zg stω t = v.toInt := by rw [e, ← hi, zg_eq]
  have a := h.1
  exact ⟨by omega, fun p d p0 p1 d0 d1 => by have := h.2.1 p d p0 p1 d0 d1; omega, fun d d0 d1 => by have := h.2.2 d d0 d1; omega⟩
theorem zLw_s {st cl ld ldω : Nat → Int32} {t q c' : Int} {c i v : Int32} (h : zLw st cl ld t q c.toInt) (e : ldω = upd ld i.toNatClampNeg v) (hv : 0 ≤ v.toInt ∧ v.toInt < zg st t) (hi : i.toInt = 30500 * t + 500 * q + c.toInt) (hk : zg cl t ≤ 500) (ht : 0 ≤ t) (hq : 0 ≤ q) (h0 : 0 ≤ c.toInt) (hc : c' = c.toInt + 1) : zLw st cl ldω t q c' := by
  subst hc
  refine ⟨h.1, fun p d p0 p1 d0 d1 => ?_, fun d d0 d1 => ?_⟩
  · rw [e, zg_ne (by omega) (by omega) (by omega)]; exact h.2.1 p d p0 p1 d0 d1
  · by_cases z : d = c.toInt
    · rw [z, ← hi, e, zg_eq]; exact hv
    · rw [e, zg_ne (by omega) (by omega) (by omega)]; exact h.2.2 d d0 (by omega)
theorem zLw_tb {st cl ld co : Nat → Int32} {t q c bm : Int} (h : zLw st cl ld t q c) (hc : zCl cl co t bm) (hq : zg st t ≤ q) (hb : 1 ≤ bm) (hb2 : bm ≤ 260) : zTb st cl ld co t bm := by
  obtain ⟨c1, c2, c3⟩ := hc
  have := c2 hb
  exact ⟨h.1, by omega, fun p d p0 p1 d0 d1 => h.2.1 p d p0 (by omega) d0 d1, c3⟩
theorem zB0 {f : Nat → Int32} {i x : Int32} (h : zg f 0 = 0) (ex : x = f i.toNatClampNeg) (hx : 1 ≤ x.toInt) (hi : 0 ≤ i.toInt) : 1 ≤ i.toInt := by
  by_cases q : i.toInt = 0
  · have := zg_at2 ex q; omega
  · omega
def zdh (g : Nat → Int32) (x : Int) : Nat → Bool
  | 0 => false
  | q + 1 => decide (zg g q = x) || zdh g x q
def zdv (g : Nat → Int32) : Nat → Int
  | 0 => 0
  | q + 1 => zdv g q + (if zdh g (zg g q) q = true then 0 else 1)
theorem zdh_y {g : Nat → Int32} {x : Int} {p : Int} : ∀ {q : Nat}, 0 ≤ p → p < q → zg g p = x → zdh g x q = true := by
  intro q; induction q with
  | zero => intro p0 p1 _; omega
  | succ q ih =>
    intro p0 p1 e
    have d : zdh g x (q + 1) = (decide (zg g q = x) || zdh g x q) := rfl
    rw [d]
    by_cases z : p = q
    · rw [z] at e; rw [decide_eq_true e, Bool.true_or]
    · rw [ih p0 (by omega) e, Bool.or_true]
theorem zdh_n {g : Nat → Int32} {x : Int} : ∀ {q : Nat}, (∀ p : Int, 0 ≤ p → p < q → zg g p ≠ x) → zdh g x q = false := by
  intro q; induction q with
  | zero => intro _; rfl
  | succ q ih =>
    intro h
    have d : zdh g x (q + 1) = (decide (zg g q = x) || zdh g x q) := rfl
    rw [d, ih (fun p p0 p1 => h p p0 (by omega)), Bool.or_false]
    exact decide_eq_false (h q (by omega) (by omega))
theorem zdh_c {g g' : Nat → Int32} {x : Int} : ∀ {q : Nat}, (∀ p : Int, 0 ≤ p → p < q → zg g' p = zg g p) → zdh g' x q = zdh g x q := by
  intro q; induction q with
  | zero => intro _; rfl
  | succ q ih =>
    intro h
    have d : ∀ f : Nat → Int32, zdh f x (q + 1) = (decide (zg f q = x) || zdh f x q) := fun _ => rfl
    rw [d, d, ih (fun p p0 p1 => h p p0 (by omega)), h q (by omega) (by omega)]
theorem zdv_c {g g' : Nat → Int32} : ∀ {q : Nat}, (∀ p : Int, 0 ≤ p → p < q → zg g' p = zg g p) → zdv g' q = zdv g q := by
  intro q; induction q with
  | zero => intro _; rfl
  | succ q ih =>
    intro h
    have d : ∀ f : Nat → Int32, zdv f (q + 1) = zdv f q + (if zdh f (zg f q) q = true then 0 else 1) := fun _ => rfl
    rw [d, d, ih (fun p p0 p1 => h p p0 (by omega)), h q (by omega) (by omega), zdh_c (fun p p0 p1 => h p p0 (by omega))]
theorem zdv_b {g : Nat → Int32} : ∀ {q : Nat}, 0 ≤ zdv g q ∧ zdv g q ≤ q := by
  intro q; induction q with
  | zero => exact ⟨Int.le_refl _, Int.le_refl _⟩
  | succ q ih =>
    have d : zdv g (q + 1) = zdv g q + (if zdh g (zg g q) q = true then 0 else 1) := rfl
    rw [d]; split <;> omega
theorem zdv_s {g : Nat → Int32} {q : Int} (h : 0 ≤ q) : zdv g (q + 1).toNat = zdv g q.toNat + (if zdh g (zg g q) q.toNat = true then 0 else 1) := by
  rw [show (q + 1).toNat = q.toNat + 1 by omega]
  show zdv g q.toNat + (if zdh g (zg g ((q.toNat : Nat) : Int)) q.toNat = true then 0 else 1) = _
  rw [show ((q.toNat : Nat) : Int) = q by omega]
def zGr (g0 g : Nat → Int32) (q m : Int) : Prop := m = zdv g q.toNat ∧ (∀ p : Int, 0 ≤ p → p < q → zg g p < m) ∧ zdv g0 q.toNat ≤ m
theorem zGr_0 {g0 g : Nat → Int32} {q m : Int} (hq : q = 0) (hm : m = 0) : zGr g0 g q m := by
  subst hq; subst hm
  exact ⟨rfl, fun p p0 p1 => by omega, Int.le_refl _⟩
theorem zGr_new {g0 g g' : Nat → Int32} {qω m m' : Int} {q v : Int32} (h : zGr g0 g q.toInt m) (e : g' = upd g q.toNatClampNeg v) (hv : v.toInt = m) (h0 : 0 ≤ q.toInt) (hq : qω = q.toInt + 1) (hm : m' = m + 1) : zGr g0 g' qω m' := by
  subst hq; subst hm
  have u : ∀ p : Int, 0 ≤ p → p < q.toInt → zg g' p = zg g p := fun p p0 p1 => by rw [e]; exact zg_ne h0 p0 (by omega)
  have w : zg g' q.toInt = m := by rw [e, zg_eq]; exact hv
  refine ⟨?_, fun p p0 p1 => ?_, ?_⟩
  · rw [zdv_s h0, zdv_c (fun p p0 p1 => u p p0 (by omega)), w, zdh_n (fun p p0 p1 => by rw [u p p0 (by omega)]; have := h.2.1 p p0 (by omega); omega), ← h.1]; rfl
  · by_cases z : p = q.toInt
    · rw [z, w]; omega
    · rw [u p p0 (by omega)]; have := h.2.1 p p0 (by omega); omega
  · rw [zdv_s h0]; have := h.2.2; split <;> omega
theorem zGr_old {g0 g g' : Nat → Int32} {qω m : Int} {p q v : Int32} (h : zGr g0 g q.toInt m) (e : g' = upd g q.toNatClampNeg v) (ev : v = g p.toNatClampNeg) (hg : zg g0 p.toInt = zg g0 q.toInt) (p0 : 0 ≤ p.toInt) (p1 : p.toInt < q.toInt) (hq : qω = q.toInt + 1) : zGr g0 g' qω m := by
  subst hq
  have h0 : 0 ≤ q.toInt := by omega
  have u : ∀ p : Int, 0 ≤ p → p < q.toInt → zg g' p = zg g p := fun p p0 p1 => by rw [e]; exact zg_ne h0 p0 (by omega)
  have w : zg g' q.toInt = zg g p.toInt := by rw [e, zg_eq]; exact zg_at ev
  refine ⟨?_, fun j j0 j1 => ?_, ?_⟩
  · rw [zdv_s h0, zdv_c (fun p p0 p1 => u p p0 (by omega)), w, zdh_y (p := p.toInt) p0 (by omega) (u p.toInt p0 p1), ← h.1, if_pos rfl, Int.add_zero]
  · by_cases z : j = q.toInt
    · rw [z, w]; exact h.2.1 p.toInt p0 p1
    · rw [u j j0 (by omega)]; exact h.2.1 j j0 (by omega)
  · rw [zdv_s h0, zdh_y (p := p.toInt) p0 (by omega) hg, if_pos rfl]; have := h.2.2; omega
def zEqr (f g : Nat → Int32) (k : Int) : Prop := ∀ j : Int, 0 ≤ j → j < k → zg f j = zg g j
theorem zEqr_0 {f g : Nat → Int32} {k : Int} (h : k ≤ 0) : zEqr f g k := fun j j0 j1 => by omega
theorem zEqr_s {f f' g : Nat → Int32} {kω : Int} {k v : Int32} (h : zEqr f g k.toInt) (e : f' = upd f k.toNatClampNeg v) (ev : v = g k.toNatClampNeg) (h0 : 0 ≤ k.toInt) (hk : kω = k.toInt + 1) : zEqr f' g kω := by
  subst hk
  intro j j0 j1
  by_cases q : j = k.toInt
  · rw [q, e, zg_eq]; exact zg_at ev
  · rw [e, zg_ne h0 j0 q]; exact h j j0 (by omega)
theorem zS_sort2 {so va le mo ho pa en fp pb pe : Nat → Int32} {b q n c g : Int} (h : zSl so va le mo ho pa en fp pb pe b q n c) (h0 : b ≤ g) (h1 : g < b + n) : 0 ≤ zg so g := by
  have := (zNf h (show 0 ≤ g - b by omega) (by omega)).1.1
  rw [show b + (g - b) = g by omega] at this; exact this
theorem zdv_1 {g : Nat → Int32} {n : Int} (h : 1 ≤ n) : 1 ≤ zdv g n.toNat := by
  have key : ∀ m : Nat, 1 ≤ zdv g (m + 1) := by
    intro m; induction m with
    | zero => exact Int.le_refl _
    | succ m ih =>
      have d : zdv g (m + 1 + 1) = zdv g (m + 1) + (if zdh g (zg g ((m + 1 : Nat) : Int)) (m + 1) = true then 0 else 1) := rfl
      rw [d]; split <;> omega
  have := key (n.toNat - 1)
  rw [show n.toNat - 1 + 1 = n.toNat by omega] at this; exact this
theorem zGr_j {g0 g g' : Nat → Int32} {qω m m' s : Int} {p q v : Int32} (h : zGr g0 g q.toInt m) (e : g' = upd g q.toNatClampNeg v) (hv : (p.toInt = q.toInt ∧ v.toInt = m) ∨ (p.toInt < q.toInt ∧ v = g p.toNatClampNeg)) (hs : (p.toInt = q.toInt ∧ s = 1) ∨ (p.toInt < q.toInt ∧ s = 0)) (hg : p.toInt < q.toInt → zg g0 p.toInt = zg g0 q.toInt) (p0 : 0 ≤ p.toInt) (h0 : 0 ≤ q.toInt) (hq : qω = q.toInt + 1) (hm : m' = m + s) : zGr g0 g' qω m' := by
  rcases hv with ⟨a, b⟩ | ⟨a, b⟩
  · exact zGr_new h e b h0 hq (by omega)
  · rw [show m' = m by omega]; exact zGr_old h e b (hg a) p0 a hq
theorem zGr_le {g0 g : Nat → Int32} {q m n a : Int} (h : zGr g0 g q m) (ha : a ≤ zdv g0 n.toNat) (hq : q = n) : a ≤ m := by
  subst hq; exact Int.le_trans ha h.2.2
theorem zGr_e {g0 g g2 : Nat → Int32} {q m n k : Int} (h : zGr g0 g q m) (he : zEqr g2 g k) (hq : q = n) (hk : n ≤ k) : m ≤ zdv g2 n.toNat := by
  subst hq
  rw [h.1, zdv_c (g := g) (g' := g2) (fun p p0 p1 => he p p0 (by omega))]; exact Int.le_refl _
def zbn (f : Nat → Int32) : Nat → Int → Int
  | 0, _ => 0
  | m + 1, q => if zg f q = -1 then 0 else 1 + zbn f m (zg f q)
def zbl (f : Nat → Int32) (q : Int) : Int := zbn f (q.toNat + 1) q
theorem zbn_f {f : Nat → Int32} {n : Int} (h : ∀ j : Int, 0 ≤ j → j < n → zg f j < j ∧ -1 ≤ zg f j) : ∀ {m m' : Nat} {q : Int}, 0 ≤ q → q < n → q < m → q < m' → zbn f m q = zbn f m' q := by
  intro m; induction m with
  | zero => intro m' q q0 _ q1 _; omega
  | succ m ih =>
    intro m' q q0 q1 q2 q3
    obtain ⟨k, rfl⟩ : ∃ k, m' = k + 1 := ⟨m' - 1, by omega⟩
    show (if zg f q = -1 then 0 else 1 + zbn f m (zg f q)) = (if zg f q = -1 then 0 else 1 + zbn f k (zg f q))
    by_cases e : zg f q = -1
    · rw [if_pos e, if_pos e]
    · have := h q q0 q1
      rw [if_neg e, if_neg e, ih (m' := k) (by omega) (by omega) (by omega) (by omega)]
theorem zbl_0 {f : Nat → Int32} {q : Int} (h : zg f q = -1) : zbl f q = 0 := by
  show (if zg f q = -1 then 0 else _) = (0 : Int); rw [if_pos h]
theorem zbl_s {f : Nat → Int32} {n q : Int} (h : rp (fun k v => v < k ∧ -1 ≤ v) f 0 n) (q0 : 0 ≤ q) (q1 : q < n) (hq : zg f q ≠ -1) : zbl f q = 1 + zbl f (zg f q) ∧ 0 ≤ zbl f (zg f q) := by
  have hω : ∀ j : Int, 0 ≤ j → j < n → zg f j < j ∧ -1 ≤ zg f j := fun j j0 j1 => by
    have := h j.toNat (by omega) (by omega)
    rw [show ((j.toNat : Nat) : Int) = j by omega] at this
    exact this
  have a := hω q q0 q1
  have nn : ∀ (m : Nat) (p : Int), 0 ≤ zbn f m p := by
    intro m; induction m with
    | zero => intro p; exact Int.le_refl _
    | succ m ih =>
      intro p
      show 0 ≤ (if zg f p = -1 then 0 else 1 + zbn f m (zg f p))
      split
      · exact Int.le_refl _
      · have := ih (zg f p); omega
  refine ⟨?_, nn _ _⟩
  show (if zg f q = -1 then 0 else 1 + zbn f q.toNat (zg f q)) = 1 + zbn f ((zg f q).toNat + 1) (zg f q)
  rw [if_neg hq, zbn_f hω (m := q.toNat) (m' := (zg f q).toNat + 1) (by omega) (by omega) (by omega) (by omega)]
