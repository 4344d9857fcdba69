def zPk (w wh en so : Nat → Int32) (b n : Int) : Nat → Int → Int → Int → Prop
  | 0, _, U, r => r = 0 ∧ 0 ≤ U
  | m + 1, V, U, r => ∃ r' : Int, (0 ≤ zg w m ∧ zg w m < n ∧ zg w m < U) ∧ (V ≤ zg wh m ∧ zg wh m ≤ zg en (b + zg w m)) ∧ r = r' + zrt so b (zg w m) ∧ zPk w wh en so b n m (zg en (b + zg w m)) (zg w m) r'
theorem zrt_nn (so : Nat → Int32) (b k : Int) : 0 ≤ zrt so b k := by unfold zrt; split; omega; split <;> omega
theorem zPk_le {w wh en so : Nat → Int32} {b n : Int} : ∀ {m : Nat} {V U r : Int}, zPk w wh en so b n m V U r → (m : Int) ≤ U ∧ 0 ≤ r := by
  intro m; induction m with
  | zero => intro V U r h; obtain ⟨h1, h2⟩ := h; omega
  | succ m ih =>
    intro V U r h
    obtain ⟨r', h1, h2, h3, h4⟩ := h
    have := ih h4; have := zrt_nn so b (zg w m); omega
theorem zPk_congr {w wh en so w' wh' : Nat → Int32} {b n : Int} : ∀ {m : Nat} {V U U' r : Int}, (∀ i : Int, 0 ≤ i → i < m → zg w' i = zg w i ∧ zg wh' i = zg wh i) → U ≤ U' → zPk w wh en so b n m V U r → zPk w' wh' en so b n m V U' r := by
  intro m; induction m with
  | zero => intro V U U' r _ hU h; exact ⟨h.1, by have := h.2; omega⟩
  | succ m ih =>
    intro V U U' r hw hU h
    obtain ⟨r', h1, h2, h3, h4⟩ := h
    obtain ⟨e1, e2⟩ := hw m (by omega) (by omega)
    refine ⟨r', ?_, ?_, ?_, ?_⟩
    · rw [e1]; omega
    · rw [e1, e2]; exact h2
    · rw [e1]; exact h3
    · rw [e1]; exact ih (fun i i0 i1 => hw i i0 (by omega)) (Int.le_refl _) h4
def zPO (w wh en so : Nat → Int32) (zv : Int → Int) (b n top pm gm : Int) : Prop := ∃ V r : Int, 0 ≤ V ∧ V ≤ n ∧ zPk w wh en so b n top.toNat V V r ∧ pm + r ≤ 12 * V + zsm zv V.toNat ∧ 3 * (n - V) + top + 2 ≤ gm
def zPN (w wh en so : Nat → Int32) (zv : Int → Int) (b n top pm gm : Int) : Prop := ∃ V r : Int, 0 ≤ V ∧ 1 ≤ top ∧ zg wh (top - 1) = -1 ∧ V ≤ zg w (top - 1) ∧ zg w (top - 1) < n ∧ zPk w wh en so b n (top - 1).toNat (zg en (b + zg w (top - 1))) (zg w (top - 1)) r ∧ pm + r ≤ 12 * V + zsm zv V.toNat + 1 ∧ 3 * (n - V) + top ≤ gm
def zPI (w wh en so : Nat → Int32) (zv : Int → Int) (b n top pm gm : Int) : Prop := zPO w wh en so zv b n top pm gm ∨ zPN w wh en so zv b n top pm gm
theorem zPI_0 {w wh en so : Nat → Int32} {zv : Int → Int} {b n gm : Int} {k : Int32} (hw : zg w 0 = k.toInt) (hh : zg wh 0 = -1) (k0 : 0 ≤ k.toInt) (k1 : k.toInt < n) (hg : 3 * n + 1 ≤ gm) : zPI w wh en so zv b n 1 0 gm := by
  refine Or.inr ⟨0, 0, by omega, by omega, by rw [show (1 : Int) - 1 = 0 from rfl]; exact hh, by rw [show (1 : Int) - 1 = 0 from rfl, hw]; exact k0, by rw [show (1 : Int) - 1 = 0 from rfl, hw]; exact k1, ?_, ?_, by omega⟩
  · rw [show (1 : Int) - 1 = 0 from rfl, hw]; exact ⟨rfl, k0⟩
  · show 0 + 0 ≤ 12 * 0 + 0 + 1; omega
theorem zsm_mn {f : Int → Int} {a c : Int} (h : ∀ k : Int, 0 ≤ k → k < c → 0 ≤ f k) (h0 : 0 ≤ a) (hm : a ≤ c) : zsm f a.toNat ≤ zsm f c.toNat := by
  have key : ∀ m : Nat, a + m ≤ c → zsm f a.toNat ≤ zsm f (a + m).toNat := by
    intro m; induction m with
    | zero => intro _; rw [show a + ((0 : Nat) : Int) = a from by omega]; exact Int.le_refl _
    | succ m ih =>
      intro hh
      have := ih (by omega)
      rw [show a + ((m + 1 : Nat) : Int) = (a + m) + 1 from by omega, zsm_add (by omega)]
      have := h (a + m) (by omega) (by omega); omega
  have := key (c - a).toNat (by omega)
  rw [show a + ((c - a).toNat : Int) = c from by omega] at this; exact this
theorem zPI_le {w wh en so : Nat → Int32} {zv : Int → Int} {b n top pm gm : Int} (h : zPI w wh en so zv b n top pm gm) (hz : ∀ k : Int, 0 ≤ k → k < n → 0 ≤ zv k) (ht : 1 ≤ top) : top ≤ n ∧ 1 ≤ gm ∧ pm ≤ 12 * n + zsm zv n.toNat + 1 ∧ 0 ≤ zg w (top - 1) ∧ zg w (top - 1) < n := by
  rcases h with ⟨V, r, a1, a2, a3, a4, a5⟩ | ⟨V, r, a1, a2, a3, a4, a5, a6, a7, a8⟩
  · have q := zPk_le a3
    have m := zsm_mn hz a1 a2
    have e : top.toNat = (top - 1).toNat + 1 := by omega
    rw [e] at a3
    obtain ⟨r', b1, b2, b3, b4⟩ := a3
    have ee : (((top - 1).toNat : Nat) : Int) = top - 1 := by omega
    rw [ee] at b1
    omega
  · have q := zPk_le a6
    have m := zsm_mn hz a1 (show V ≤ n by omega)
    omega
theorem zPI_hd {w wh en so : Nat → Int32} {zv : Int → Int} {b n top pm gm : Int} (h : zPI w wh en so zv b n top pm gm) (hz : ∀ k : Int, 0 ≤ k → k < n → 0 ≤ zv k) (ht : 1 ≤ top) (hw : zg wh (top - 1) = -1) : pm + zv (zg w (top - 1)) ≤ 12 * n + zsm zv n.toNat + 1 := by
  rcases h with ⟨V, r, a1, a2, a3, a4, a5⟩ | ⟨V, r, a1, a2, a3, a4, a5, a6, a7, a8⟩
  · have e : top.toNat = (top - 1).toNat + 1 := by omega
    rw [e] at a3
    obtain ⟨r', b1, b2, b3, b4⟩ := a3
    have ee : (((top - 1).toNat : Nat) : Int) = top - 1 := by omega
    rw [ee, hw] at b2; omega
  · have q := zPk_le a6
    have m1 := zsm_mn hz (a := V) (c := n) a1 (by omega)
    have m2 := zsm_mn (f := zv) (a := V) (c := zg w (top - 1)) (fun k k0 k1 => hz k k0 (by omega)) a1 a4
    have m3 := zsm_mn hz (a := zg w (top - 1) + 1) (c := n) (by omega) (by omega)
    rw [zsm_add (by omega)] at m3
    omega
theorem zPO_hd {w wh wh' en so : Nat → Int32} {zv : Int → Int} {b n top pm pm' gm : Int} {i x : Int32} (h : zPI w wh en so zv b n top pm gm) (hz : ∀ k : Int, 0 ≤ k → k < n → 0 ≤ zv k) (ht : 1 ≤ top) (hw : zg wh (top - 1) = -1) (e : wh' = upd wh i.toNatClampNeg x) (hi : i.toInt = top - 1) (hx : x.toInt = zg w (top - 1) + 1) (hen : zg w (top - 1) < zg en (b + zg w (top - 1))) (hp : pm' + zrt so b (zg w (top - 1)) ≤ pm + 11 + zv (zg w (top - 1))) : zPO w wh' en so zv b n top pm' gm := by
  rcases h with ⟨V, r, a1, a2, a3, a4, a5⟩ | ⟨V, r, a1, a2, a3, a4, a5, a6, a7, a8⟩
  · have e : top.toNat = (top - 1).toNat + 1 := by omega
    rw [e] at a3
    obtain ⟨r', b1, b2, b3, b4⟩ := a3
    have ee : (((top - 1).toNat : Nat) : Int) = top - 1 := by omega
    rw [ee, hw] at b2; omega
  · subst e
    have e : top.toNat = (top - 1).toNat + 1 := by omega
    have ee : (((top - 1).toNat : Nat) : Int) = top - 1 := by omega
    have m2 := zsm_mn (f := zv) (a := V) (c := zg w (top - 1)) (fun k k0 k1 => hz k k0 (by omega)) a1 a4
    refine ⟨zg w (top - 1) + 1, r + zrt so b (zg w (top - 1)), by omega, by omega, ?_, ?_, by omega⟩
    · rw [e]
      refine ⟨r, by rw [ee]; omega, ?_, by rw [ee], ?_⟩
      · rw [ee, ← hi, zg_eq, hx, hi]; omega
      · rw [ee]; exact zPk_congr (fun j j0 j1 => ⟨rfl, zg_ne (by omega) j0 (by omega)⟩) (Int.le_refl _) a6
    · rw [zsm_add (by omega)]; omega
theorem zPO_op {w wh en so : Nat → Int32} {zv : Int → Int} {b n top pm gm : Int} (h : zPI w wh en so zv b n top pm gm) (hw : zg wh (top - 1) ≠ -1) : zPO w wh en so zv b n top pm gm := by
  rcases h with h | ⟨V, r, a1, a2, a3, a4⟩
  · exact h
  · exact absurd a3 hw
theorem zPO_c {w wh en so : Nat → Int32} {zv : Int → Int} {b n top pm gm : Int} (h : zPO w wh en so zv b n top pm gm) (ht : 1 ≤ top) : zg w (top - 1) < zg wh (top - 1) ∧ zg wh (top - 1) ≤ zg en (b + zg w (top - 1)) := by
  obtain ⟨V, r, a1, a2, a3, a4, a5⟩ := h
  have e : top.toNat = (top - 1).toNat + 1 := by omega
  rw [e] at a3
  obtain ⟨r', b1, b2, b3, b4⟩ := a3
  have ee : (((top - 1).toNat : Nat) : Int) = top - 1 := by omega
  rw [ee] at b1 b2; omega
theorem zPI_push {w wh w' wh1 wh2 en so : Nat → Int32} {zv : Int → Int} {b n top top' pm pm' gm gm' : Int} {i j j2 x c : Int32} (h : zPO w wh en so zv b n top pm gm) (ht : 1 ≤ top) (e1 : wh1 = upd wh i.toNatClampNeg x) (e2 : w' = upd w j.toNatClampNeg c) (e3 : wh2 = upd wh1 j2.toNatClampNeg (-1)) (hi : i.toInt = top - 1) (hj : j.toInt = top) (hj2 : j2.toInt = top) (hc : c.toInt = zg wh (top - 1)) (hx : x.toInt = zg en (b + c.toInt)) (hcn : c.toInt < n) (hen : zg en (b + c.toInt) ≤ zg en (b + zg w (top - 1))) (hp : pm' ≤ pm + 1) (ht' : top' = top + 1) (hg : gm' = gm - 1) : zPI w' wh2 en so zv b n top' pm' gm' := by
  obtain ⟨V, r, a1, a2, a3, a4, a5⟩ := h
  subst e1; subst e2; subst e3; subst ht'; subst hg
  have e : top.toNat = (top - 1).toNat + 1 := by omega
  have ee : (((top - 1).toNat : Nat) : Int) = top - 1 := by omega
  have et : top + 1 - 1 = top := by omega
  have hwt : zg (upd w j.toNatClampNeg c) top = c.toInt := by rw [← hj]; exact zg_eq
  have hwo : ∀ q : Int, 0 ≤ q → q < top → zg (upd w j.toNatClampNeg c) q = zg w q := fun q q0 q1 => zg_ne (by omega) q0 (by omega)
  rw [e] at a3
  obtain ⟨r', b1, b2, b3, b4⟩ := a3
  rw [ee] at b1 b2 b3 b4
  refine Or.inr ⟨V, r, a1, by omega, ?_, ?_, ?_, ?_, by omega, by omega⟩
  · rw [et, ← hj2, zg_eq]; rfl
  · rw [et, hwt]; omega
  · rw [et, hwt]; exact hcn
  · rw [et, hwt, e]
    refine ⟨r', ?_, ?_, ?_, ?_⟩
    · rw [ee, hwo _ (by omega) (by omega)]; omega
    · rw [ee, hwo _ (by omega) (by omega), zg_ne (i := j2) (by omega) (by omega) (by omega), ← hi, zg_eq, hi]; omega
    · rw [ee, hwo _ (by omega) (by omega)]; exact b3
    · rw [ee, hwo _ (by omega) (by omega)]
      exact zPk_congr (fun q q0 q1 => ⟨hwo q q0 (by omega), by rw [zg_ne (i := j2) (by omega) q0 (by omega), zg_ne (by omega) q0 (by omega)]⟩) (Int.le_refl _) b4
theorem zPI_pop {w wh en so : Nat → Int32} {zv : Int → Int} {b n top top' pm pm' gm gm' : Int} (h : zPO w wh en so zv b n top pm gm) (hz : ∀ k : Int, 0 ≤ k → k < n → 0 ≤ zv k) (ht : 1 ≤ top) (hen : zg en (b + zg w (top - 1)) ≤ n) (hp : pm' ≤ pm + zrt so b (zg w (top - 1))) (ht' : top' = top - 1) (hg : gm' = gm - 1) : zPI w wh en so zv b n top' pm' gm' := by
  obtain ⟨V, r, a1, a2, a3, a4, a5⟩ := h
  subst ht'; subst hg
  have e : top.toNat = (top - 1).toNat + 1 := by omega
  have ee : (((top - 1).toNat : Nat) : Int) = top - 1 := by omega
  rw [e] at a3
  obtain ⟨r', b1, b2, b3, b4⟩ := a3
  rw [ee] at b1 b2 b3 b4
  have m1 := zsm_mn (f := zv) (a := V) (c := zg en (b + zg w (top - 1))) (fun k k0 k1 => hz k k0 (by omega)) a1 (by omega)
  exact Or.inl ⟨zg en (b + zg w (top - 1)), r', by omega, hen, zPk_congr (fun _ _ _ => ⟨rfl, rfl⟩) (by omega) b4, by omega, by omega⟩
theorem zPI_end {w wh en so : Nat → Int32} {zv : Int → Int} {b n top pm gm : Int} (h : zPI w wh en so zv b n top pm gm) (hz : ∀ k : Int, 0 ≤ k → k < n → 0 ≤ zv k) (ht : top ≤ 0) : pm ≤ 12 * n + zsm zv n.toNat := by
  rcases h with ⟨V, r, a1, a2, a3, a4, a5⟩ | ⟨V, r, a1, a2, a3⟩
  · have q := zPk_le a3
    have m := zsm_mn hz a1 a2
    omega
  · omega
theorem zS_33 {so va le mo ho pa en fp pb pe : Nat → Int32} {b q n c : Int} (h : zSl so va le mo ho pa en fp pb pe b q n c) : 12 * n + zsm (zvs so va pa fp pb pe b q) n.toNat ≤ 3332 := by
  obtain ⟨s1, s2, s3, s4, p, p0, p1, s5, s6, s7, s8, s9⟩ := h
  exact s9
theorem zS_e {so va le mo ho pa en fp pb pe : Nat → Int32} {b q n c k : Int} (h : zSl so va le mo ho pa en fp pb pe b q n c) (k0 : 0 ≤ k) (k1 : k < n) : k < zg en (b + k) ∧ zg en (b + k) ≤ n := by
  obtain ⟨p, _, _, ⟨_, _, d3, d4, _⟩, _⟩ := zS_nd h k0 k1
  exact ⟨d3, d4⟩
theorem zS_lam {so va le mo ho pa en fp pb pe : Nat → Int32} {b q n c k j : Int} (h : zSl so va le mo ho pa en fp pb pe b q n c) (k0 : 0 ≤ k) (k1 : k < n) (hj : k < j) (hj2 : j < zg en (b + k)) : zg en (b + j) ≤ zg en (b + k) := by
  obtain ⟨p, _, _, ⟨_, _, d3, d4, d5⟩, _⟩ := zS_nd h k0 k1
  exact (d5 j hj hj2).2
