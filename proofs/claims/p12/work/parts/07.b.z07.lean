def zPh (φ : Int) (B E : Nat → Int32) (p h b e j : Int) : Prop := 1 ≤ φ ∨ (zFp B E p ∧ (0 ≤ b ∧ b ≤ 65535 ∧ 0 ≤ e ∧ e ≤ 65535) ∧ zsm (zhp B E) p.toNat + zhx b + zhx e - zhp B E j ≤ h)
def zPj (φ : Int) (B E : Nat → Int32) (n k p h : Int) : Prop := 1 ≤ φ ∨ (zFp B E p ∧ zsm (zhp B E) n.toNat + zsm (zhp B E) p.toNat - zsm (zhp B E) k.toNat ≤ h)
theorem zhp_nn (B E : Nat → Int32) (k : Int) : 0 ≤ zhp B E k := by unfold zhp; have := zhx_nn (zg B k); have := zhx_nn (zg E k); omega
theorem zPh_in {φ p h : Int} {B E : Nat → Int32} {k b e : Int32} (u : zPs φ B E p h) (eb : b = B k.toNatClampNeg) (ee : e = E k.toNatClampNeg) (h0 : 0 ≤ k.toInt) (h1 : k.toInt < p) : zPh φ B E p h b.toInt e.toInt k.toInt := by
  rcases u with u | ⟨u1, u2⟩
  · exact Or.inl u
  · have q1 := zg_at eb
    have q2 := zg_at ee
    refine Or.inr ⟨u1, by rw [q1, q2]; exact u1 _ h0 h1, ?_⟩
    unfold zhp at *; rw [← q1, ← q2]; omega
theorem zsm_upd2 {f g : Int → Int} {j p : Int} (h0 : 0 ≤ j) (h1 : j < p) (h : ∀ k : Int, 0 ≤ k → k ≠ j → f k = g k) : zsm f p.toNat = zsm g p.toNat + f j - g j := zsm_upd h0 (by omega) (fun k k1 _ k3 => h k k1 k3)
theorem zhp_ne {B E : Nat → Int32} {j b e : Int32} {k : Int} (h0 : 0 ≤ j.toInt) (hk : 0 ≤ k) (h : k ≠ j.toInt) : zhp (upd B j.toNatClampNeg b) (upd E j.toNatClampNeg e) k = zhp B E k := by
  unfold zhp; rw [zg_ne h0 hk h, zg_ne h0 hk h]
theorem zhp_eq {B E : Nat → Int32} {j b e : Int32} : zhp (upd B j.toNatClampNeg b) (upd E j.toNatClampNeg e) j.toInt = zhx b.toInt + zhx e.toInt := by
  unfold zhp; rw [zg_eq, zg_eq]
theorem zPh_st {φ p h b e : Int} {B E B' E' : Nat → Int32} {j j' i i2 x y : Int32} (u : zPh φ B E p h b e j.toInt) (e1 : B' = upd B j.toNatClampNeg x) (e2 : E' = upd E j.toNatClampNeg y) (eb : x = B i.toNatClampNeg) (ee : y = E i2.toNatClampNeg) (hi : i.toInt = j.toInt - 1) (hi2 : i2.toInt = j.toInt - 1) (hj' : j'.toInt = j.toInt - 1) (h0 : 1 ≤ j.toInt) (h1 : j.toInt < p) : zPh φ B' E' p h b e j'.toInt := by
  rcases u with u | ⟨u1, u2, u3⟩
  · exact Or.inl u
  · have q1 := zg_at eb
    have q2 := zg_at ee
    rw [hi] at q1; rw [hi2] at q2
    have hk := u1 (j.toInt - 1) (by omega) (by omega)
    subst e1; subst e2
    have hj0 : 0 ≤ j.toInt := by omega
    refine Or.inr ⟨fun k k0 k1 => ?_, u2, ?_⟩
    · by_cases q : k = j.toInt
      · subst q; rw [zg_eq, zg_eq, q1, q2]; exact hk
      · rw [zg_ne hj0 k0 q, zg_ne hj0 k0 q]; exact u1 k k0 k1
    · rw [zsm_upd2 (g := zhp B E) hj0 h1 (fun k k0 k1 => zhp_ne hj0 k0 k1), zhp_eq, hj', zhp_ne hj0 (by omega) (by omega), q1, q2]
      unfold zhp at u3 ⊢; omega
theorem zPh_out {φ p h : Int} {B E B' E' : Nat → Int32} {j b e : Int32} (u : zPh φ B E p h b.toInt e.toInt j.toInt) (e1 : B' = upd B j.toNatClampNeg b) (e2 : E' = upd E j.toNatClampNeg e) (h0 : 0 ≤ j.toInt) (h1 : j.toInt < p) : zPs φ B' E' p h := by
  rcases u with u | ⟨u1, u2, u3⟩
  · exact Or.inl u
  · subst e1; subst e2
    refine Or.inr ⟨fun k k0 k1 => ?_, ?_⟩
    · by_cases q : k = j.toInt
      · subst q; rw [zg_eq, zg_eq]; exact u2
      · rw [zg_ne h0 k0 q, zg_ne h0 k0 q]; exact u1 k k0 k1
    · rw [zsm_upd2 (g := zhp B E) h0 h1 (fun k k0 k1 => zhp_ne h0 k0 k1), zhp_eq]; omega
theorem zPj_in {φ p h : Int} {B E : Nat → Int32} {k : Int} (u : zPs φ B E p h) : zPj φ B E k k p h := by
  rcases u with u | ⟨u1, u2⟩
  · exact Or.inl u
  · exact Or.inr ⟨u1, by omega⟩
theorem zPj_out {φ p h n k : Int} {B E : Nat → Int32} (u : zPj φ B E n k p h) (hk : k = p) (hn : n ≤ p) : zPs φ B E n h := by
  rcases u with u | ⟨u1, u2⟩
  · exact Or.inl u
  · subst hk; exact Or.inr ⟨fun j j0 j1 => u1 j j0 (by omega), by omega⟩
theorem zPj_m {φ p h : Int} {B E E' : Nat → Int32} {n k i x : Int32} {k' : Int} (u : zPj φ B E n.toInt k.toInt p h) (hx : x.toInt = zg E k.toInt ∨ x.toInt = zg E i.toInt) (e1 : E' = upd E i.toNatClampNeg x) (hi : i.toInt = n.toInt - 1) (hn : 1 ≤ n.toInt) (hnk : n.toInt ≤ k.toInt) (hk : k.toInt < p) (hk' : k' = k.toInt + 1) : zPj φ B E' n.toInt k' p h := by
  rcases u with u | ⟨u1, u2⟩
  · exact Or.inl u
  · subst e1
    have hi0 : 0 ≤ i.toInt := by omega
    have kk := u1 k.toInt (by omega) hk
    have ki := u1 i.toInt hi0 (by omega)
    have ne : ∀ q : Int, 0 ≤ q → q ≠ i.toInt → zhp B (upd E i.toNatClampNeg x) q = zhp B E q := fun q q0 q1 => by unfold zhp; rw [zg_ne hi0 q0 q1]
    refine Or.inr ⟨fun q q0 q1 => ?_, ?_⟩
    · by_cases z : q = i.toInt
      · subst z; rw [zg_eq]; rcases hx with hx | hx <;> rw [hx] <;> omega
      · rw [zg_ne hi0 q0 z]; exact u1 q q0 q1
    · have a1 := zsm_upd2 (p := n.toInt) hi0 (by omega) ne
      have a2 := zsm_upd2 (p := p) hi0 (by omega) ne
      have a3 := zsm_upd2 (p := k') hi0 (by omega) ne
      have a4 : zsm (zhp B E) k'.toNat = zsm (zhp B E) k.toInt.toNat + zhp B E k.toInt := by
        rw [hk', show (k.toInt + 1).toNat = k.toInt.toNat + 1 from by omega]
        show _ + zhp B E (k.toInt.toNat : Nat) = _
        rw [show ((k.toInt.toNat : Nat) : Int) = k.toInt from by omega]
      have a5 : zhp B (upd E i.toNatClampNeg x) i.toInt ≤ zhp B E i.toInt + zhp B E k.toInt := by
        unfold zhp; rw [zg_eq]
        have := zhx_nn (zg B k.toInt); have := zhx_nn (zg E k.toInt); have := zhx_nn (zg E i.toInt)
        rcases hx with hx | hx <;> rw [hx] <;> omega
      omega
theorem zPj_c {φ p h : Int} {B E B' E' : Nat → Int32} {n n' k x y : Int32} {k' : Int} (u : zPj φ B E n.toInt k.toInt p h) (e1 : B' = upd B n.toNatClampNeg x) (e2 : E' = upd E n.toNatClampNeg y) (ex : x = B k.toNatClampNeg) (ey : y = E k.toNatClampNeg) (hn : 0 ≤ n.toInt) (hnk : n.toInt ≤ k.toInt) (hk : k.toInt < p) (hk' : k' = k.toInt + 1) (hn' : n'.toInt = n.toInt + 1) : zPj φ B' E' n'.toInt k' p h := by
  rcases u with u | ⟨u1, u2⟩
  · exact Or.inl u
  · have q1 := zg_at ex
    have q2 := zg_at ey
    subst e1; subst e2
    have kk := u1 k.toInt (by omega) hk
    refine Or.inr ⟨fun q q0 qq => ?_, ?_⟩
    · by_cases z : q = n.toInt
      · subst z; rw [zg_eq, zg_eq, q1, q2]; exact kk
      · rw [zg_ne hn q0 z, zg_ne hn q0 z]; exact u1 q q0 qq
    · have ne : ∀ q : Int, 0 ≤ q → q ≠ n.toInt → zhp (upd B n.toNatClampNeg x) (upd E n.toNatClampNeg y) q = zhp B E q := fun q q0 z => zhp_ne hn q0 z
      have a2 := zsm_upd2 (p := p) hn (by omega) ne
      have a3 := zsm_upd2 (p := k') hn (by omega) ne
      have a1 := zsm_upd2 (p := n'.toInt) hn (by omega) ne
      have suc : ∀ w : Int, 0 ≤ w → zsm (zhp B E) (w + 1).toNat = zsm (zhp B E) w.toNat + zhp B E w := fun w w0 => by
        rw [show (w + 1).toNat = w.toNat + 1 from by omega]
        show _ + zhp B E (w.toNat : Nat) = _
        rw [show ((w.toNat : Nat) : Int) = w from by omega]
      have a4 := suc k.toInt (by omega)
      have a5 := suc n.toInt hn
      rw [← hk'] at a4; rw [← hn'] at a5
      have a6 : zhp (upd B n.toNatClampNeg x) (upd E n.toNatClampNeg y) n.toInt = zhp B E k.toInt := by rw [zhp_eq, q1, q2]; rfl
      omega
theorem zPs_add {φ h h' : Int} {B E B' E' : Nat → Int32} {p b e : Int32} (u : zPs φ B E p.toInt h) (e1 : B' = upd B p.toNatClampNeg b) (e2 : E' = upd E p.toNatClampNeg e) (h0 : 0 ≤ p.toInt) (hb : 1 ≤ φ ∨ (0 ≤ b.toInt ∧ b.toInt ≤ 65535 ∧ 0 ≤ e.toInt ∧ e.toInt ≤ 65535 ∧ h + zhx b.toInt + zhx e.toInt ≤ h')) : zPs φ B' E' (p.toInt + 1) h' := by
  rcases hb with hb | hb
  · exact Or.inl hb
  · rcases u with u | ⟨u1, u2⟩
    · exact Or.inl u
    · exact Or.inr ⟨zFp_part u1 h0 e1 e2 (by omega), by rw [zhp_part h0 e1 e2]; omega⟩
theorem zPj_k {φ p h k k' : Int} {B E : Nat → Int32} {n : Int32} (u : zPj φ B E n.toInt k p h) (e : k' = k) : zPj φ B E n.toInt k' p h := by subst e; exact u
theorem zg_at2 {f : Nat → Int32} {i x : Int32} {k : Int} (h : x = f i.toNatClampNeg) (hi : i.toInt = k) : x.toInt = zg f k := by subst hi; exact zg_at h
theorem zPs_ad {φ h : Int} {B E B' E' : Nat → Int32} {p p' b e : Int32} (u : zPs φ B E p.toInt h) (e1 : B' = upd B p.toNatClampNeg b) (e2 : E' = upd E p.toNatClampNeg e) (h0 : 0 ≤ p.toInt) (hb : 32 ≤ b.toInt ∧ b.toInt ≤ 126 ∧ 32 ≤ e.toInt ∧ e.toInt ≤ 126) (hp : p'.toInt = p.toInt + 1) : zPs φ B' E' p'.toInt h := by
  rw [hp]
  refine zPs_add u e1 e2 h0 (Or.inr ⟨by omega, by omega, by omega, by omega, ?_⟩)
  unfold zhx; rw [if_neg (by omega), if_neg (by omega)]; omega
theorem zRS_ps {φ : Int} {S V L Z F X M P B E rf rl rm sf sl sm gs gv : Nat → Int32} {d n p c i a w : Int} (u : zRS φ S V L Z F X M P B E rf rl rm sf sl sm gs gv d n p c i a w) : zPs φ B E p (zsm (zhp B E) p.toNat) := by
  rcases u with u | ⟨_, _, u3, _⟩
  · exact Or.inl u
  · exact Or.inr ⟨u3, Int.le_refl _⟩
def zRs1 (φ φ' : Int) (B E B' E' : Nat → Int32) (p p' l l' : Int) : Prop := φ ≤ φ' ∧ zPb B E B' E' p ∧ ∃ h : Int, zPs φ' B' E' p' h ∧ 3 * (h - zsm (zhp B E) p.toNat) ≤ l' - l
def zRs2 (φ : Int) (b e l l' : Int) : Prop := 1 ≤ φ ∨ (0 ≤ b ∧ b ≤ 65535 ∧ 0 ≤ e ∧ e ≤ 65535 ∧ 3 * (zhx b + zhx e) ≤ l' - l)
theorem zMb_x {φ p e v : Int} (h : zMb φ p e v) (hp : p + 1 ≤ e) : 1 ≤ φ ∨ (0 ≤ v ∧ v ≤ 65535 ∧ 6 * zhx v ≤ e - p) := by
  rcases h with h | ⟨h1, h2, h3⟩
  · exact Or.inl h
  · refine Or.inr ⟨h1, h2, ?_⟩
    rcases h3 with h3 | h3
    · have := zhx_nn v; omega
    · unfold zhx; rw [if_neg (by omega)]; omega
theorem zRs2_a {φ p e v : Int} (h : zMb φ p e v) (hp : p + 1 ≤ e) : zRs2 φ v v p e := by
  rcases zMb_x h hp with h | h
  · exact Or.inl h
  · exact Or.inr ⟨by omega, by omega, by omega, by omega, by omega⟩
theorem zRs2_b {φ φ2 φ3 p e v p2 e2 v2 : Int} (h : zMb φ p e v) (hp : p + 1 ≤ e) (h2 : zMb φ2 p2 e2 v2) (hp2 : p2 + 1 ≤ e2) (hφ : φ ≤ φ2) (hφ2 : φ2 ≤ φ3) (he : e ≤ p2) : zRs2 φ3 v v2 p e2 := by
  rcases zMb_x h hp with h | h
  · exact Or.inl (by omega)
  · rcases zMb_x h2 hp2 with h2 | h2
    · exact Or.inl (by omega)
    · have := zhx_nn v; have := zhx_nn v2
      exact Or.inr ⟨by omega, by omega, by omega, by omega, by omega⟩
theorem zRs1_0 {φ φ' : Int} {S V L Z F X M P B E rf rl rm sf sl sm gs gv : Nat → Int32} {d n p c i a w l l' : Int} (u : zRS φ S V L Z F X M P B E rf rl rm sf sl sm gs gv d n p c i a w) (hφ : φ = φ') (hl : l ≤ l') : zRs1 φ φ' B E B E p p l l' := by
  subst hφ
  exact ⟨Int.le_refl _, zPb_rf, _, zRS_ps u, by omega⟩
theorem zRs1_m {φ φ1 φ2 : Int} {B E B' E' : Nat → Int32} {p p' l l1 l2 : Int} (h : zRs1 φ φ1 B E B' E' p p' l l1) (h1 : φ1 ≤ φ2) (h2 : l1 ≤ l2) : zRs1 φ φ2 B E B' E' p p' l l2 := by
  obtain ⟨a, hb, h9, b, c⟩ := h
  refine ⟨by omega, hb, h9, ?_, by omega⟩
  rcases b with b | b
  · exact Or.inl (by omega)
  · exact Or.inr b
theorem zRs1_a {φ φ1 φ2 : Int} {B E B' E' B2 E2 : Nat → Int32} {p l l1 l2 : Int} {p' p2 b e : Int32} (h : zRs1 φ φ1 B E B' E' p p'.toInt l l1) (w : zRs2 φ2 b.toInt e.toInt l1 l2) (e1 : B2 = upd B' p'.toNatClampNeg b) (e2 : E2 = upd E' p'.toNatClampNeg e) (h1 : φ1 ≤ φ2) (h0 : 0 ≤ p'.toInt) (hp : p2.toInt = p'.toInt + 1) (hpp : p ≤ p'.toInt) : zRs1 φ φ2 B E B2 E2 p p2.toInt l l2 := by
  obtain ⟨a, hb, h9, q, c⟩ := h
  have hb2 := zPb_w hb e1 e2 ⟨h0, hpp⟩ ⟨h0, hpp⟩
  have q2 : zPs φ2 B' E' p'.toInt h9 := by
    rcases q with q | q
    · exact Or.inl (by omega)
    · exact Or.inr q
  rcases w with w | w
  · exact ⟨by omega, hb2, zsm (zhp B E) p.toNat + (l2 - l) / 3, Or.inl w, by omega⟩
  · rw [hp]
    exact ⟨by omega, hb2, h9 + zhx b.toInt + zhx e.toInt, zPs_add q2 e1 e2 h0 (Or.inr ⟨by omega, by omega, by omega, by omega, Int.le_refl _⟩), by omega⟩
def zRd (φ : Int) (S V L Z F X M P B E : Nat → Int32) (t n p c : Int) : Prop := 1 ≤ φ ∨ (zOne S V F X t 0 n 0 c ∧ zFn S V L Z M P n p ∧ zFp B E p ∧ zCn S V M P B E 0 n p c 100 200 3224)
theorem zRd_of {φ : Int} {S V L Z F X M P B E rf rl rm sf sl sm gs gv : Nat → Int32} {d t n p c i a w : Int} (u : zRT φ S V L Z F X M P B E rf rl rm sf sl sm gs gv d t n p c i a w) (hd : 1 ≤ φ ∨ d = 0) (hi : 1 ≤ φ ∨ i ≤ 100) (ha : 1 ≤ φ ∨ a ≤ 200) (hw : 1 ≤ φ ∨ w ≤ 3224) : zRd φ S V L Z F X M P B E t n p c := by
  rcases hd with h | hd
  · exact Or.inl h
  · rcases hi with h | hi
    · exact Or.inl h
    · rcases ha with h | ha
      · exact Or.inl h
      · rcases hw with h | hw
        · exact Or.inl h
        · rcases u with u | ⟨⟨a0, ca, u1, u2⟩, u3, u4, u9, u5, u6, u7⟩
          · exact Or.inl u
          · subst hd
            obtain ⟨e1, e2⟩ := u1
            subst e1; subst e2
            exact Or.inr ⟨u2, u3, u4, u9, by omega, by omega, by omega⟩
theorem zNew_set {S V L Z F X M P S' V' L' Z' F' X' M' P' M2 P2 : Nat → Int32} {w i q m : Int32} {n q' m' : Int} (u : zNew S V L Z F X M P S' V' L' Z' F' X' M' P' n (2 : Int32).toInt w.toInt 0 0 (-1) 0 0) (e1 : P2 = upd P' i.toNatClampNeg q) (e2 : M2 = upd M' i.toNatClampNeg m) (h0 : 0 ≤ n) (hi : i.toInt = n) (hq : q.toInt = q' ∧ m.toInt = m') (hw : 0 ≤ w.toInt ∧ w.toInt ≤ 1) : ∃ w : Int32, (0 ≤ w.toInt ∧ w.toInt ≤ 1) ∧ zNew S V L Z F X M P S' V' L' Z' F' X' M2 P2 n (2 : Int32).toInt w.toInt 0 0 (-1) m' q' := by
  obtain ⟨h1, h2⟩ := hq
  subst h1; subst h2
  exact ⟨w, hw, zNew_M (zNew_P u hi h0 e1) hi h0 e2⟩
