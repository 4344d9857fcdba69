def zRS (φ : Int) (S V L Z F X M P B E rf rl rm sf sl sm gs gv : Nat → Int32) (d n p c i a w : Int) : Prop := 1 ≤ φ ∨ (zSt S V F X rf rl rm sf sl sm gs gv d n c ∧ zFn S V L Z M P n p ∧ zFp B E p ∧ zCn S V M P B E d n p c i a w)
def zRC (φ : Int) (S V L Z F X M P B E rf rl rm sf sl sm gs gv : Nat → Int32) (d n p c i a w : Int) : Prop := 1 ≤ φ ∨ (zg rm d = 0 ∧ 1 ≤ zg sm d ∧ zSt S V F X rf rl rm sf sl sm gs gv d n c ∧ zFn S V L Z M P n p ∧ zFp B E p ∧ zCn S V M P B E d n p c i a w)
def zRT (φ : Int) (S V L Z F X M P B E rf rl rm sf sl sm gs gv : Nat → Int32) (d t n p c i a w : Int) : Prop := 1 ≤ φ ∨ (zTk S V F X rf rl rm sf sl sm gs gv d t n c ∧ zFn S V L Z M P n p ∧ zFp B E p ∧ zCn S V M P B E d n p c i a w)
def zRP (φ : Int) (S V L Z F X M P B E rf rl rm sf sl sm gs gv : Nat → Int32) (d t n p c i a w : Int) : Prop := 1 ≤ φ ∨ (zPd S V F X rf rl rm sf sl sm gs gv d t n c ∧ zFn S V L Z M P n p ∧ zFp B E p ∧ zCn S V M P B E d n p c i a w)
def zAdj (rm rl rf X rf' X' : Nat → Int32) (d t : Int) : Prop := (zg rm d = 0 → zg rf' d = t ∧ X' = X) ∧ (zg rm d ≠ 0 → zg rf' d = zg rf d ∧ zg X' (zg rl d) = t ∧ ∀ k, k ≠ zg rl d → 0 ≤ k → zg X' k = zg X k) ∧ ∀ i, 0 ≤ i → i ≠ d → zg rf' i = zg rf i
theorem zAdj_a {rm rl rf X rf' : Nat → Int32} {d t x : Int32} (h0 : 0 ≤ d.toInt) (ex : x = rm d.toNatClampNeg) (hx : x.toInt = 0) (e : rf' = upd rf d.toNatClampNeg t) : zAdj rm rl rf X rf' X d.toInt t.toInt := by
  subst e
  have := zg_at ex
  exact ⟨fun _ => ⟨zg_eq, rfl⟩, fun z => by omega, fun i i0 i1 => zg_ne h0 i0 i1⟩
theorem zAdj_b {rm rl rf X X' : Nat → Int32} {d t x y : Int32} (ex : x = rm d.toNatClampNeg) (hx : x.toInt ≠ 0) (ey : y = rl d.toNatClampNeg) (hy : 0 ≤ y.toInt) (e : X' = upd X y.toNatClampNeg t) : zAdj rm rl rf X rf X' d.toInt t.toInt := by
  subst e
  have h1 := zg_at ex
  have h2 := zg_at ey
  exact ⟨fun z => by omega, fun _ => ⟨rfl, by rw [← h2]; exact zg_eq, fun k k1 k0 => zg_ne hy k0 (by omega)⟩, fun _ _ _ => rfl⟩
theorem zRS_add {φ : Int} {S V L Z F X M P B E rf rl rm sf sl sm gs gv X' rf' rl' rm' : Nat → Int32} {d t x y : Int32} {n p c i a w : Int} (u : zRP φ S V L Z F X M P B E rf rl rm sf sl sm gs gv d.toInt t.toInt n p c i a w) (ad : zAdj rm rl rf X rf' X' d.toInt t.toInt) (e1 : rl' = upd rl d.toNatClampNeg t) (ex : x = rm d.toNatClampNeg) (ey : y = x + 1) (e2 : rm' = upd rm d.toNatClampNeg y) (h0 : 0 ≤ d.toInt) (hb : n ≤ 1000) : zRS φ S V L Z F X' M P B E rf' rl' rm' sf sl sm gs gv d.toInt n p c i a w := by
  rcases u with u | ⟨⟨b, cb, u1, u2⟩, u3⟩
  · exact Or.inl u
  · refine Or.inr ⟨?_, u3⟩
    subst e1; subst e2
    have hx := zg_at ex
    have hy : y.toInt = x.toInt + 1 := by
      have q : 0 ≤ zg rm d.toInt ∧ zg rm d.toInt ≤ n := by
        have w1 := u2.1; have w2 := u2.2.2.1
        obtain ⟨a0, _, qL, m0, _, qs, qr⟩ := u1
        have := zRw_le qs; have := zRw_le qr; have := zLo_le qL
        omega
      exact i_add (a := x.toInt) (b := 1) ey rfl rfl (by omega) (by omega)
    obtain ⟨a1, a2, a3⟩ := ad
    exact zSt_add h0 u1 u2 (fun i i0 i1 => ⟨a3 i i0 i1, zg_ne h0 i0 i1, zg_ne h0 i0 i1⟩) (by rw [zg_eq]; omega) zg_eq a1 a2
def zCr (S V L Z F X M P S' V' L' Z' F' X' M' P' rf rm : Nat → Int32) (d t n n' : Int) : Prop := (zg rm d = 1 ∧ t = zg rf d ∧ n' = n ∧ S' = S ∧ V' = V ∧ L' = L ∧ Z' = Z ∧ F' = F ∧ X' = X ∧ M' = M ∧ P' = P) ∨ (zg rm d ≠ 1 ∧ t = n ∧ n' = n + 1 ∧ zNew S V L Z F X M P S' V' L' Z' F' X' M' P' n 5 0 0 0 (zg rf d) (zg rm d) 0)
theorem zCr_a {S V L Z F X M P rf rm : Nat → Int32} {d x y : Int32} {n : Int} (ex : x = rm d.toNatClampNeg) (hx : x.toInt = 1) (ey : y = rf d.toNatClampNeg) : zCr S V L Z F X M P S V L Z F X M P rf rm d.toInt y.toInt n n := by
  have h1 := zg_at ex
  have h2 := zg_at ey
  exact Or.inl ⟨by omega, h2, rfl, rfl, rfl, rfl, rfl, rfl, rfl, rfl, rfl⟩
theorem zCr_b {S V L Z F X M P S' V' L' Z' F' X' M' P' F2 M2 rf rm : Nat → Int32} {d x y z i n' : Int32} {n : Int} (h0 : 0 ≤ n) (hi : i.toInt = n) (ex : x = rm d.toNatClampNeg) (hx : x.toInt ≠ 1) (ey : y = rf d.toNatClampNeg) (ez : z = rm d.toNatClampNeg) (u : zNew S V L Z F X M P S' V' L' Z' F' X' M' P' n (5 : Int32).toInt (0 : Int32).toInt 0 0 (-1) 0 0) (e1 : F2 = upd F' i.toNatClampNeg y) (e2 : M2 = upd M' i.toNatClampNeg z) (hn : n'.toInt = n + 1) : zCr S V L Z F X M P S' V' L' Z' F2 X' M2 P' rf rm d.toInt i.toInt n n'.toInt := by
  have h1 := zg_at ex
  have h2 := zg_at ey
  have h3 := zg_at ez
  refine Or.inr ⟨by omega, hi, hn, ?_⟩
  have q := zNew_M (zNew_F u hi h0 e1) hi h0 e2
  rw [h2, h3] at q; exact q
theorem zRC_close {φ : Int} {S V L Z F X M P B E rf rl rm sf sl sm gs gv S' V' L' Z' F' X1 X2 M' P' rf' rl' rm' sf' sl' sm' : Nat → Int32} {d t x y n n' : Int32} {p c i a w : Int} (u : zRS φ S V L Z F X M P B E rf rl rm sf sl sm gs gv d.toInt n.toInt p c i a w) (cr : zCr S V L Z F X M P S' V' L' Z' F' X1 M' P' rf rm d.toInt t.toInt n.toInt n'.toInt) (ad : zAdj sm sl sf X1 sf' X2 d.toInt t.toInt) (e1 : sl' = upd sl d.toNatClampNeg t) (ex : x = sm d.toNatClampNeg) (ey : y = x + 1) (e2 : sm' = upd sm d.toNatClampNeg y) (e3 : rf' = upd rf d.toNatClampNeg (-1)) (e4 : rl' = upd rl d.toNatClampNeg (-1)) (e5 : rm' = upd rm d.toNatClampNeg 0) (h0 : 0 ≤ d.toInt) (hb : n.toInt ≤ 1000) : zRC φ S' V' L' Z' F' X2 M' P' B E rf' rl' rm' sf' sl' sm' gs gv d.toInt n'.toInt p c i a (w + 12) := by
  rcases u with u | ⟨u1, u2, u3, u4⟩
  · exact Or.inl u
  · have qn := (zSt_le u1).1
    subst e1; subst e2; subst e3; subst e4; subst e5
    have hx := zg_at ex
    obtain ⟨a1, a2, a3⟩ := ad
    have hs0 : 0 ≤ zg sm d.toInt ∧ zg sm d.toInt ≤ n.toInt := by
      obtain ⟨_, _, qL, _, _, q1, q2⟩ := u1
      have := zRw_le q1; have := zRw_le q2; have := zLo_le qL
      omega
    have hy : y.toInt = x.toInt + 1 := i_add (a := x.toInt) (b := 1) ey rfl rfl (by omega) (by omega)
    refine Or.inr ⟨by rw [zg_eq]; rfl, by rw [zg_eq]; omega, ?_, ?_, u3, ?_⟩
    · refine zSt_close (X1 := X1) (t := t.toInt) h0 u1 ?_ a1 a2 zg_eq (by rw [zg_eq]; omega) (by rw [zg_eq]; rfl) (by rw [zg_eq]; rfl) (fun i i0 i1 => ⟨zg_ne h0 i0 i1, zg_ne h0 i0 i1, zg_ne h0 i0 i1, a3 i i0 i1, zg_ne h0 i0 i1, zg_ne h0 i0 i1⟩)
      rcases cr with ⟨r1, r2, r3, r4, r5, r6, r7, r8, r9, _, _⟩ | ⟨r1, r2, r3, r4⟩
      · exact Or.inl ⟨r1, r2, r3, r4, r5, r8, r9⟩
      · exact Or.inr ⟨r1, r2, r3, r4.2.1, r4.2.2.2.2.2.1, r4.2.2.2.2.2.2.1, zNew_c r4⟩
    · rcases cr with ⟨r1, r2, r3, r4, r5, r6, r7, r8, r9, r10, r11⟩ | ⟨r1, r2, r3, r4⟩
      · rw [r3, r4, r5, r6, r7, r10, r11]; exact u2
      · rw [r3]; exact zFn_new u2 r4 (Int.le_refl _) (by unfold zNok; omega)
    · rcases cr with ⟨r1, r2, r3, r4, r5, r6, r7, r8, r9, r10, r11⟩ | ⟨r1, r2, r3, r4⟩
      · rw [r3, r4, r5, r10, r11]; obtain ⟨u9, u5, u6, u7⟩ := u4; exact ⟨u9, u5, u6, by omega⟩
      · rw [r3]; exact zCn_new (d' := d.toInt) (i' := i) (a' := a) (w' := w + 12) qn u4 r4 (by omega) (by omega) (by omega) (by omega)
theorem zRC_S {φ : Int} {S V L Z F X M P B E rf rl rm sf sl sm gs gv : Nat → Int32} {d n p c i a w : Int} (u : zRC φ S V L Z F X M P B E rf rl rm sf sl sm gs gv d n p c i a w) : zRS φ S V L Z F X M P B E rf rl rm sf sl sm gs gv d n p c i a w := by
  rcases u with u | ⟨_, _, u⟩
  · exact Or.inl u
  · exact Or.inr u
theorem zRT_a {φ : Int} {S V L Z F X M P B E rf rl rm sf sl sm gs gv : Nat → Int32} {d x y : Int32} {n p c i a w : Int} (u : zRC φ S V L Z F X M P B E rf rl rm sf sl sm gs gv d.toInt n p c i a w) (ex : x = sm d.toNatClampNeg) (ey : y = sf d.toNatClampNeg) (h0 : 0 ≤ d.toInt) (hx : x.toInt = 1) : zRT φ S V L Z F X M P B E rf rl rm sf sl sm gs gv d.toInt y.toInt n p c i a (w + 12) := by
  rcases u with u | ⟨v1, v2, u1, u2⟩
  · exact Or.inl u
  · have h1 := zg_at ex
    have h2 := zg_at ey
    obtain ⟨u2, u3, u9, u5, u6, u7⟩ := u2
    exact Or.inr ⟨zSt_fin h0 u1 v1 v2 (Or.inl ⟨by omega, h2, rfl, rfl, rfl, rfl, rfl⟩), u2, u3, u9, u5, u6, by omega⟩
theorem zRT_b {φ : Int} {S V L Z F X M P B E rf rl rm sf sl sm gs gv S' V' L' Z' F' X' M' P' F2 M2 : Nat → Int32} {d x y z n n' j : Int32} {p c i a w : Int} (u : zRC φ S V L Z F X M P B E rf rl rm sf sl sm gs gv d.toInt n.toInt p c i a w) (v : zNew S V L Z F X M P S' V' L' Z' F' X' M' P' n.toInt (6 : Int32).toInt (0 : Int32).toInt 0 0 (-1) 0 0) (ex : x = sm d.toNatClampNeg) (ey : y = sf d.toNatClampNeg) (e1 : F2 = upd F' j.toNatClampNeg y) (e2 : M2 = upd M' j.toNatClampNeg z) (h0 : 0 ≤ d.toInt) (hn0 : 0 ≤ n.toInt) (hj : j.toInt = n.toInt) (hx : x.toInt ≠ 1) (hn : n'.toInt = n.toInt + 1) : zRT φ S' V' L' Z' F2 X' M2 P' B E rf rl rm sf sl sm gs gv d.toInt j.toInt n'.toInt p c i a (w + 12) := by
  have q := zNew_M (zNew_F v hj hn0 e1) hj hn0 e2
  have e6 : (6 : Int32).toInt = 6 := rfl
  have e0 : (0 : Int32).toInt = 0 := rfl
  rw [e6, e0] at q
  rcases u with u | ⟨v1, v2, u1, u2, u3, u4⟩
  · exact Or.inl u
  · have h1 := zg_at ex
    have h2 := zg_at ey
    refine Or.inr ⟨zSt_fin h0 u1 v1 v2 (Or.inr ⟨by omega, hj, hn, q.2.1, ?_, q.2.2.2.2.2.2.1, zNew_c q⟩), ?_, u3, ?_⟩
    · rw [q.2.2.2.2.2.1]; exact h2
    · rw [hn]; exact zFn_new u2 q (Int.le_refl _) (by unfold zNok; omega)
    · rw [hn]; exact zCn_new (d' := d.toInt) (i' := i) (a' := a) (w' := w + 12) hn0 u4 q (by omega) (by omega) (by omega) (by omega)
theorem zNew_hold {S V L Z F X M P S' V' L' Z' F' X' M' P' F2 M2 : Nat → Int32} {n : Int} {s v f i : Int32} (h0 : 0 ≤ n) (hi : i.toInt = n) (u : zNew S V L Z F X M P S' V' L' Z' F' X' M' P' n s.toInt v.toInt 0 0 (-1) 0 0) (e1 : F2 = upd F' i.toNatClampNeg f) (e2 : M2 = upd M' i.toNatClampNeg 1) : zNew S V L Z F X M P S' V' L' Z' F2 X' M2 P' n s.toInt v.toInt 0 0 f.toInt 1 0 :=
  zNew_M (zNew_F u hi h0 e1) hi h0 e2
theorem zRP_loop {φ φ' : Int} {S V L Z F X M P B E rf rl rm sf sl sm gs gv S' V' L' Z' F' X' M' P' L2 Z2 : Nat → Int32} {n v x y n' j : Int32} {d t p c i i' a a' w w' : Int} (u : zRP φ S V L Z F X M P B E rf rl rm sf sl sm gs gv d t n.toInt p c i a w) (ww : zNew S V L Z F X M P S' V' L' Z' F' X' M' P' n.toInt (7 : Int32).toInt v.toInt 0 0 t 1 0) (e1 : L2 = upd L' j.toNatClampNeg x) (e2 : Z2 = upd Z' j.toNatClampNeg y) (hn0 : 0 ≤ n.toInt) (hj : j.toInt = n.toInt) (hφ : φ ≤ φ') (hk : 1 ≤ φ' ∨ (0 ≤ v.toInt ∧ v.toInt ≤ 2 ∧ 0 ≤ x.toInt ∧ x.toInt ≤ 20 ∧ -1 ≤ y.toInt ∧ y.toInt ≤ 20 ∧ (y.toInt = -1 ∨ x.toInt ≤ y.toInt))) (hi : i + 2 ≤ i') (ha : a ≤ a') (hn : n'.toInt = n.toInt + 1) (hw : w + 12 ≤ w') : zRP φ' S' V' L2 Z2 F' X' M' P' B E rf rl rm sf sl sm gs gv d j.toInt n'.toInt p c i' a' w' := by
  rcases hk with hk | hk
  · exact Or.inl hk
  · rcases u with u | ⟨u1, u2, u3, u4⟩
    · exact Or.inl (by omega)
    · have q := zNew_Z (zNew_L ww hj hn0 e1) hj hn0 e2
      have e7 : (7 : Int32).toInt = 7 := rfl
      rw [e7] at q
      refine Or.inr ⟨?_, ?_, u3, ?_⟩
      · rw [hn]; exact zPd_wrap u1 hj (zNew_c q) (by rw [q.2.1]; omega) (by rw [q.2.1]; omega) q.2.2.2.2.2.1 q.2.2.2.2.2.2.1
      · rw [hn]; exact zFn_new u2 q (Int.le_refl _) (by unfold zNok; omega)
      · rw [hn]; exact zCn_new (d' := d) hn0 u4 q (by omega) (by omega) (by omega) (by omega)
theorem zRP_mono {φ φ' : Int} {S V L Z F X M P B E rf rl rm sf sl sm gs gv : Nat → Int32} {d t n p c i i' a a' w w' : Int} (u : zRP φ S V L Z F X M P B E rf rl rm sf sl sm gs gv d t n p c i a w) (hφ : 1 ≤ φ → 1 ≤ φ') (hi : i ≤ i') (ha : a ≤ a') (hw : w ≤ w') : zRP φ' S V L Z F X M P B E rf rl rm sf sl sm gs gv d t n p c i' a' w' := by
  rcases u with u | ⟨u1, u2, u3, u9, u4, u5, u6⟩
  · exact Or.inl (hφ u)
  · exact Or.inr ⟨u1, u2, u3, u9, by omega, by omega, by omega⟩
theorem zRS_mono {φ φ' : Int} {S V L Z F X M P B E rf rl rm sf sl sm gs gv : Nat → Int32} {d n p c i i' a a' w w' : Int} (u : zRS φ S V L Z F X M P B E rf rl rm sf sl sm gs gv d n p c i a w) (hφ : 1 ≤ φ → 1 ≤ φ') (hi : i ≤ i') (ha : a ≤ a') (hw : w ≤ w') : zRS φ' S V L Z F X M P B E rf rl rm sf sl sm gs gv d n p c i' a' w' := by
  rcases u with u | ⟨u1, u2, u3, u9, u4, u5, u6⟩
  · exact Or.inl (hφ u)
  · exact Or.inr ⟨u1, u2, u3, u9, by omega, by omega, by omega⟩
theorem zRP_leaf {φ φ' : Int} {S V L Z F X M P B E rf rl rm sf sl sm gs gv S' V' L' Z' F' X' M' P' : Nat → Int32} {n s v n' j : Int32} {d p c i i' a a' w w' : Int} (u : zRS φ S V L Z F X M P B E rf rl rm sf sl sm gs gv d n.toInt p c i a w) (ww : zNew S V L Z F X M P S' V' L' Z' F' X' M' P' n.toInt s.toInt v.toInt 0 0 (-1) 0 0) (hn0 : 0 ≤ n.toInt) (hj : j.toInt = n.toInt) (hφ : φ ≤ φ') (hk : 1 ≤ φ' ∨ (0 ≤ s.toInt ∧ s.toInt ≤ 4 ∧ s.toInt ≠ 2 ∧ 0 ≤ v.toInt ∧ v.toInt ≤ 65535 ∧ (s.toInt ≠ 0 → v.toInt ≤ 9) ∧ (s.toInt = 4 → 1 ≤ v.toInt) ∧ (s.toInt = 0 → (v.toInt < 32 ∨ 126 < v.toInt) → a + 6 ≤ a' ∧ w + 16 ≤ w'))) (hi : i ≤ i') (ha : a ≤ a') (hn : n'.toInt = n.toInt + 1) (hw : w + 12 ≤ w') : zRP φ' S' V' L' Z' F' X' M' P' B E rf rl rm sf sl sm gs gv d j.toInt n'.toInt p c i' a' w' := by
  rcases hk with hk | hk
  · exact Or.inl hk
  · rcases u with u | ⟨u1, u2, u3, u4⟩
    · exact Or.inl (by omega)
    · refine Or.inr ⟨?_, ?_, u3, ?_⟩
      · rw [hn]; exact zPd_leaf u1 hj (zNew_c ww) (by rw [ww.2.1]; omega) ww.2.2.2.2.2.1 ww.2.2.2.2.2.2.1
      · rw [hn]; exact zFn_new u2 ww (Int.le_refl _) (by unfold zNok; omega)
      · rw [hn]; exact zCn_new (d' := d) hn0 u4 ww (by omega) (by omega) ⟨ha, fun z1 z2 => (hk.2.2.2.2.2.2.2 z1 z2).1⟩ ⟨by omega, fun z1 z2 => by have := (hk.2.2.2.2.2.2.2 z1 z2).2; omega⟩
def zPs (φ : Int) (B E : Nat → Int32) (p h : Int) : Prop := 1 ≤ φ ∨ (zFp B E p ∧ zsm (zhp B E) p.toNat ≤ h)
theorem zRP_set {φ φ' : Int} {S V L Z F X M P B E B' E' rf rl rm sf sl sm gs gv S' V' L' Z' F' X' M' P' : Nat → Int32} {n v n' j : Int32} {m d p p' c i i' a a' w w' h : Int} (u : zRS φ S V L Z F X M P B E rf rl rm sf sl sm gs gv d n.toInt p c i a w) (hP : zPs φ' B' E' p' h) (hb : zPb B E B' E' p) (ww : zNew S V L Z F X M P S' V' L' Z' F' X' M' P' n.toInt (2 : Int32).toInt v.toInt 0 0 (-1) m p) (hv : 0 ≤ v.toInt ∧ v.toInt ≤ 1) (hn0 : 0 ≤ n.toInt) (hj : j.toInt = n.toInt) (hφ : φ ≤ φ') (hq : 0 ≤ p ∧ 0 ≤ m ∧ p' = p + m) (hi : i ≤ i') (ha : 1 ≤ φ' ∨ 3 * (h - zsm (zhp B E) p.toNat) ≤ a' - a) (hn : n'.toInt = n.toInt + 1) (hw : 1 ≤ φ' ∨ 12 + 5 * m + 4 * (h - zsm (zhp B E) p.toNat) ≤ w' - w) : zRP φ' S' V' L' Z' F' X' M' P' B' E' rf rl rm sf sl sm gs gv d j.toInt n'.toInt p' c i' a' w' := by
  have e2 : (2 : Int32).toInt = 2 := rfl
  rw [e2] at ww
  rcases hP with hP | ⟨p1, p2⟩
  · exact Or.inl hP
  · rcases u with u | ⟨u1, u2, u3, u4⟩
    · exact Or.inl (by omega)
    · rcases ha with ha | ha
      · exact Or.inl ha
      · rcases hw with hw | hw
        · exact Or.inl hw
        · refine Or.inr ⟨?_, ?_, p1, ?_⟩
          · rw [hn]; exact zPd_leaf u1 hj (zNew_c ww) (by rw [ww.2.1]; omega) ww.2.2.2.2.2.1 ww.2.2.2.2.2.2.1
          · rw [hn]; exact zFn_new u2 ww (by omega) (by unfold zNok; omega)
          · rw [hn]; exact zCn_set hn0 hq.1 hq.2.1 u4 u2 ww hb hq.2.2 p2 hi ha hw
theorem zRP_close {φ φ' : Int} {S V L Z F X M P B E rf rl rm sf sl sm gs gv S' V' L' Z' F' X' M' P' : Nat → Int32} {n n' d s v j : Int32} {t p c i a w : Int} (u : zRT φ S V L Z F X M P B E rf rl rm sf sl sm gs gv d.toInt t n.toInt p c i a w) (es : s = gs d.toNatClampNeg) (ev : v = gv d.toNatClampNeg) (ww : zNew S V L Z F X M P S' V' L' Z' F' X' M' P' n.toInt s.toInt v.toInt 0 0 t 1 0) (hn0 : 0 ≤ n.toInt) (hj : j.toInt = n.toInt) (hd : 1 ≤ d.toInt) (hφ : φ ≤ φ') (h5 : s.toInt ≠ 5) (hc : 1 ≤ φ' ∨ c ≤ 9) (hn : n'.toInt = n.toInt + 1) : zRP φ' S' V' L' Z' F' X' M' P' B E rf rl rm sf sl sm gs gv (d.toInt - 1) j.toInt n'.toInt p c (i - 1) a (w - 12) := by
  rcases hc with hc | hc
  · exact Or.inl hc
  · rcases u with u | ⟨u1, u2, u3, u4⟩
    · exact Or.inl (by omega)
    · have h1 := zg_at es
      have h2 := zg_at ev
      have hk : zGk gs gv d.toInt ∧ (zg gs d.toInt = 8 → 1 ≤ zg gv d.toInt ∧ zg gv d.toInt ≤ c) := by
        obtain ⟨a0, ca, hL, hO⟩ := u1
        have qO : ca ≤ c := by obtain ⟨k, hk⟩ := hO.2.2.2.2; exact (zCh_le hk).2.1
        have e : d.toInt.toNat = (d.toInt - 1).toNat + 1 := by omega
        rw [e] at hL
        obtain ⟨a1, c0, cm, k1, k2, k3, k4, k5⟩ := hL
        have e' : (((d.toInt - 1).toNat + 1 : Nat) : Int) = d.toInt := by omega
        rw [e'] at k3 k5
        have := zLo_le k1; have := zFr_le k2
        exact ⟨k5, fun z => by have := k3 z; omega⟩
      obtain ⟨⟨g1, g2, g3⟩, g4⟩ := hk
      refine Or.inr ⟨?_, ?_, u3, ?_⟩
      · refine zTk_close hd u1 (Or.inr ⟨by omega, hj, hn, by rw [ww.2.1]; omega, by rw [ww.2.2.1]; omega, ww.2.2.2.2.2.1, ww.2.2.2.2.2.2.1, zNew_c ww⟩)
      · rw [hn]; refine zFn_new u2 ww (Int.le_refl _) ?_
        rw [h1, h2]; unfold zNok
        by_cases e8 : zg gs d.toInt = 8
        · have := g4 e8; omega
        · have := g3 e8; omega
      · rw [hn]; exact zCn_new (d' := d.toInt - 1) (i' := i - 1) (a' := a) (w' := w - 12) hn0 u4 ww (by rw [h1]; omega) (by rw [h1]; omega) (by rw [h1]; omega) (by rw [h1]; omega)
theorem zRP_close0 {φ φ' : Int} {S V L Z F X M P B E rf rl rm sf sl sm gs gv : Nat → Int32} {d s : Int32} {t n p c i a w : Int} (u : zRT φ S V L Z F X M P B E rf rl rm sf sl sm gs gv d.toInt t n p c i a w) (es : s = gs d.toNatClampNeg) (hd : 1 ≤ d.toInt) (hφ : φ ≤ φ') (h5 : s.toInt = 5) : zRP φ' S V L Z F X M P B E rf rl rm sf sl sm gs gv (d.toInt - 1) t n p c (i - 1) a (w - 12) := by
  rcases u with u | ⟨u1, u2, u3, u9, u4, u5, u6⟩
  · exact Or.inl (by omega)
  · have h1 := zg_at es
    exact Or.inr ⟨zTk_close hd u1 (Or.inl ⟨by omega, rfl, rfl, rfl, rfl, rfl, rfl⟩), u2, u3, u9, by omega, u5, by omega⟩
theorem zRS_open {φ φ' : Int} {S V L Z F X M P B E rf rl rm sf sl sm gs gv rf' rl' rm' sf' sl' sm' gs' gv' : Nat → Int32} {d s v : Int32} {d0 n p c c' i i' a a' w w' : Int} (u : zRS φ S V L Z F X M P B E rf rl rm sf sl sm gs gv d0 n p c i a w) (e1 : gs' = upd gs d.toNatClampNeg s) (e2 : gv' = upd gv d.toNatClampNeg v) (e3 : rf' = upd rf d.toNatClampNeg (-1)) (e4 : rl' = upd rl d.toNatClampNeg (-1)) (e5 : rm' = upd rm d.toNatClampNeg 0) (e6 : sf' = upd sf d.toNatClampNeg (-1)) (e7 : sl' = upd sl d.toNatClampNeg (-1)) (e8 : sm' = upd sm d.toNatClampNeg 0) (hd0 : d0 = d.toInt - 1) (hd : 1 ≤ d.toInt) (hφ : φ ≤ φ') (hk : (s.toInt = 5 ∨ (8 ≤ s.toInt ∧ s.toInt ≤ 11)) ∧ 0 ≤ v.toInt ∧ (s.toInt ≠ 8 → v.toInt ≤ 9 ∧ c' = c) ∧ (s.toInt = 8 → v.toInt = c + 1 ∧ c' = c + 1)) (hi : i + 1 ≤ i') (ha : a ≤ a') (hw : w + 24 + 12 * c ≤ w' + 12 * c') : zRS φ' S V L Z F X M P B E rf' rl' rm' sf' sl' sm' gs' gv' d.toInt n p c' i' a' w' := by
  subst hd0
  rcases u with u | ⟨u1, u2, u3, u9, u4, u5, u6⟩
  · exact Or.inl (by omega)
  · refine Or.inr ⟨?_, u2, u3, u9, by omega, by omega, by omega⟩
    subst e1; subst e2; subst e3; subst e4; subst e5; subst e6; subst e7; subst e8
    have h0 : 0 ≤ d.toInt := by omega
    have ed : d.toInt - 1 + 1 = d.toInt := by omega
    have q := zSt_open (d := d.toInt - 1) (rf' := upd rf d.toNatClampNeg (-1)) (rl' := upd rl d.toNatClampNeg (-1)) (rm' := upd rm d.toNatClampNeg 0) (sf' := upd sf d.toNatClampNeg (-1)) (sl' := upd sl d.toNatClampNeg (-1)) (sm' := upd sm d.toNatClampNeg 0) (gs' := upd gs d.toNatClampNeg s) (gv' := upd gv d.toNatClampNeg v) (c' := c') (by omega) u1
    rw [ed] at q
    refine q (fun i i0 i1 => ⟨zg_ne h0 i0 i1, zg_ne h0 i0 i1, zg_ne h0 i0 i1, zg_ne h0 i0 i1, zg_ne h0 i0 i1, zg_ne h0 i0 i1, zg_ne h0 i0 i1, zg_ne h0 i0 i1⟩) ?_ ?_ ?_ ?_ ?_ ?_ ?_
    · rw [zg_eq]; rfl
    · rw [zg_eq]; rfl
    · rw [zg_eq]; rfl
    · rw [zg_eq]; rfl
    · unfold zGk; rw [zg_eq, zg_eq]; exact ⟨hk.1, hk.2.1, fun z => (hk.2.2.1 z).1⟩
    · rw [zg_eq, zg_eq]; exact hk.2.2.2
    · rw [zg_eq]; exact fun z => (hk.2.2.1 z).2
theorem zRS_init {φ : Int} {S V L Z F X M P B E rf rl rm sf sl sm gs gv rf' rl' rm' sf' sl' sm' gs' gv' : Nat → Int32} {s v : Int32} 
    (e1 : gs' = upd gs (0 : Int32).toNatClampNeg s) (e2 : gv' = upd gv (0 : Int32).toNatClampNeg v) (e3 : rf' = upd rf (0 : Int32).toNatClampNeg (-1)) (e4 : rl' = upd rl (0 : Int32).toNatClampNeg (-1)) (e5 : rm' = upd rm (0 : Int32).toNatClampNeg 0) (e6 : sf' = upd sf (0 : Int32).toNatClampNeg (-1)) (e7 : sl' = upd sl (0 : Int32).toNatClampNeg (-1)) (e8 : sm' = upd sm (0 : Int32).toNatClampNeg 0) : zRS φ S V L Z F X M P B E rf' rl' rm' sf' sl' sm' gs' gv' 0 0 0 0 0 0 0 := by
  subst e1; subst e2; subst e3; subst e4; subst e5; subst e6; subst e7; subst e8
  refine Or.inr ⟨⟨0, 0, ⟨rfl, rfl⟩, 0, 0, Or.inl ⟨zg_eq (i := 0), zg_eq (i := 0), rfl, rfl⟩, Or.inl ⟨zg_eq (i := 0), zg_eq (i := 0), rfl, rfl⟩⟩, fun t t0 t1 => by omega, fun t t0 t1 => by omega, Int.le_refl _, ?_, ?_, ?_⟩
  · show 2 * 0 + 0 ≤ _; omega
  · show (3 : Int) * (0 + 0) ≤ 0; omega
  · show (12 : Int) * 0 + 24 * 0 + 0 ≤ 0 + 12 * 0; omega
