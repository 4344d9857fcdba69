def pbt (w : Int64) (i : Int) : Int32 := ((w >>> ((16 * Int32.ofInt i).toInt64 &&& 63)) &&& 65535).toInt32
theorem pbt_m {w : Int64} {x x1 x4 : Int32} {y2 y3 : Int64} (e1 : x1 = 16 * x) (e2 : y2 = w >>> (x1.toInt64 &&& 63)) (e3 : y3 = y2 &&& 65535) (e4 : x4 = y3.toInt32) : x4 = pbt w x.toInt := by
  rw [e4, e3, e2, e1]
  unfold pbt
  rw [Int32.ofInt_toInt]
theorem pbt_k (k : Nat) (hk : k ≤ 48) (b : BitVec 64) : (b >>> k).signExtend 32 &&& 65535#32 = (b.sshiftRight k &&& 65535#64).signExtend 32 := by
  apply BitVec.eq_of_getLsbD_eq
  intro i hi
  have m1 : (65535#32).getLsbD i = decide (i < 16) := (by decide : ∀ j : Fin 32, (65535#32).getLsbD j.1 = decide (j.1 < 16)) ⟨i, hi⟩
  have m2 : (65535#64).getLsbD i = decide (i < 16) := (by decide : ∀ j : Fin 32, (65535#64).getLsbD j.1 = decide (j.1 < 16)) ⟨i, hi⟩
  rw [BitVec.getLsbD_and, BitVec.getLsbD_signExtend, BitVec.getLsbD_signExtend, if_pos (by omega), if_pos (by omega), BitVec.getLsbD_and, BitVec.getLsbD_sshiftRight, BitVec.getLsbD_ushiftRight, m1, m2]
  by_cases h : i < 16
  · rw [if_pos (by omega), decide_eq_true h, decide_eq_true hi, decide_eq_false (by omega : ¬ 64 ≤ i)]
    simp
  · rw [decide_eq_false h, Bool.and_false, Bool.and_false, Bool.and_false]
theorem pbt_c {w : Int64} {x x1 x3 x4 : Int32} {y2 : Int64} (e1 : x1 = 16 * x) (e2 : y2 = (w.toUInt64 >>> (x1.toInt64.toUInt64 &&& Int64.toUInt64 63)).toInt64) (e3 : x3 = y2.toInt32) (e4 : x4 = x3 &&& 65535) (h0 : 0 ≤ x.toInt) (h3 : x.toInt ≤ 3) : x4 = pbt w x.toInt := by
  have hx : x = 0 ∨ x = 1 ∨ x = 2 ∨ x = 3 := by
    rcases (by omega : x.toInt = 0 ∨ x.toInt = 1 ∨ x.toInt = 2 ∨ x.toInt = 3) with h | h | h | h
    · exact Or.inl (Int32.toInt_inj.mp h)
    · exact Or.inr (Or.inl (Int32.toInt_inj.mp h))
    · exact Or.inr (Or.inr (Or.inl (Int32.toInt_inj.mp h)))
    · exact Or.inr (Or.inr (Or.inr (Int32.toInt_inj.mp h)))
  rw [e4, e3, e2, e1]
  rcases hx with rfl | rfl | rfl | rfl
  · exact Int32.toBitVec_inj.mp (pbt_k 0 (by omega) w.toBitVec)
  · exact Int32.toBitVec_inj.mp (pbt_k 16 (by omega) w.toBitVec)
  · exact Int32.toBitVec_inj.mp (pbt_k 32 (by omega) w.toBitVec)
  · exact Int32.toBitVec_inj.mp (pbt_k 48 (by omega) w.toBitVec)
def pPs (sg : Nat → Int32) (b n : Int) (w : Int64) (m : Int) (sg2 : Nat → Int32) : Prop := (∀ j : Nat, ((j : Int) < b ∨ b + m ≤ (j : Int)) → sg2 j = sg j) ∧ (∀ j : Nat, (j : Int) < m → sg2 (b + j).toNat = pbt w (n - 1 - j))
theorem pPs_0 {sg : Nat → Int32} {b n : Int} {w : Int64} {m : Int} (h : m = 0) : pPs sg b n w m sg := ⟨fun _ _ => rfl, fun j hj => absurd hj (by omega)⟩
theorem pPs_s {sg sg1 sg2 : Nat → Int32} {b n : Int} {w : Int64} {m m2 : Int} {k v : Int32} (h : pPs sg b n w m sg1) (e : sg2 = upd sg1 k.toNatClampNeg v) (hv : v = pbt w (n - 1 - m)) (h0 : 0 ≤ b) (h1 : 0 ≤ m) (hk : k.toInt = b + m) (h2 : m2 = m + 1) : pPs sg b n w m2 sg2 := by
  subst e
  have hc := i_cl (x := k) (by omega)
  refine ⟨fun j hj => ?_, fun j hj => ?_⟩
  · show (if j = k.toNatClampNeg then v else sg1 j) = sg j
    rw [if_neg (by omega)]
    exact h.1 j (by omega)
  · show (if (b + j).toNat = k.toNatClampNeg then v else sg1 (b + j).toNat) = pbt w (n - 1 - j)
    by_cases z : (j : Int) = m
    · rw [if_pos (by omega), hv, z]
    · rw [if_neg (by omega)]
      exact h.2 j (by omega)
def zPc (p1 p2 : Int) (w : Int64) (had base : Int) (it it2 : Nat → Int32) : Prop := (¬ ((0 ≤ p1 ∧ p1 ≤ 3) ∧ (0 ≤ p2 ∧ p2 ≤ 4) ∧ had + p2 ≤ 100) → it2 = it) ∧ ((0 ≤ p1 ∧ p1 ≤ 3) ∧ (0 ≤ p2 ∧ p2 ≤ 4) ∧ had + p2 ≤ 100 → pPs it base p2 w p2 it2)
theorem zPc_no {p1 p2 : Int} {w : Int64} {had base : Int} {it : Nat → Int32} (h : ¬ ((0 ≤ p1 ∧ p1 ≤ 3) ∧ (0 ≤ p2 ∧ p2 ≤ 4) ∧ had + p2 ≤ 100)) : zPc p1 p2 w had base it it := ⟨fun _ => rfl, fun z => absurd z h⟩
theorem zPc_yes {p1 p2 : Int} {w : Int64} {had base : Int} {it it2 : Nat → Int32} (h : (0 ≤ p1 ∧ p1 ≤ 3) ∧ (0 ≤ p2 ∧ p2 ≤ 4) ∧ had + p2 ≤ 100) (g : pPs it base p2 w p2 it2) : zPc p1 p2 w had base it it2 := ⟨fun z => absurd h z, fun _ => g⟩
theorem mo_isSubject {p : Int32} {Q Q2 : Int32 → Prop} (h : w_X11_isSubject p Q) (k : ∀ r : Int32, (r = 0 → ¬ (0 ≤ p.toInt ∧ p.toInt ≤ 3)) → (¬ r = 0 → 0 ≤ p.toInt ∧ p.toInt ≤ 3) → Q r → Q2 r) : w_X11_isSubject p Q2 := by
  unfold w_X11_isSubject w_X11_isSubject_13 w_X11_isSubject_14 at *
  refine ⟨fun z => ⟨(h.1 z).1, k _ (fun _ y => ?_) (fun y => absurd rfl y) (h.1 z).2⟩, fun z => ⟨fun z2 => ⟨((h.2 z).1 z2).1, k _ (fun _ y => ?_) (fun y => absurd rfl y) ((h.2 z).1 z2).2⟩, fun z2 => ⟨((h.2 z).2 z2).1, k _ (fun y => absurd y (by decide)) (fun _ => ?_) ((h.2 z).2 z2).2⟩⟩⟩
  · have z := Int32.lt_iff_toInt_lt.mp z
    have q : (0 : Int32).toInt = 0 := rfl
    omega
  · have z2 := Int32.le_iff_toInt_le.mp z2
    have q : (4 : Int32).toInt = 4 := rfl
    omega
  · have a1 : ¬ p.toInt < 0 := fun y => z (Int32.lt_iff_toInt_lt.mpr y)
    have a2 : ¬ 4 ≤ p.toInt := fun y => z2 (Int32.le_iff_toInt_le.mpr y)
    omega
theorem mo_in {p a b : Int32} {Q Q2 : Int32 → Prop} (h : w_X12_in p a b Q) (k : ∀ r : Int32, (r = 0 → ¬ (a.toInt ≤ p.toInt ∧ p.toInt ≤ b.toInt)) → (¬ r = 0 → a.toInt ≤ p.toInt ∧ p.toInt ≤ b.toInt) → Q r → Q2 r) : w_X12_in p a b Q2 := by
  unfold w_X12_in w_X12_in_14 w_X12_in_15 at *
  refine ⟨fun z => ⟨(h.1 z).1, k _ (fun _ y => ?_) (fun y => absurd rfl y) (h.1 z).2⟩, fun z => ⟨fun z2 => ⟨((h.2 z).1 z2).1, k _ (fun _ y => ?_) (fun y => absurd rfl y) ((h.2 z).1 z2).2⟩, fun z2 => ⟨((h.2 z).2 z2).1, k _ (fun y => absurd y (by decide)) (fun _ => ?_) ((h.2 z).2 z2).2⟩⟩⟩
  · have z := Int32.lt_iff_toInt_lt.mp z
    omega
  · have z2 := Int32.lt_iff_toInt_lt.mp z2
    omega
  · have a1 : ¬ p.toInt < a.toInt := fun y => z (Int32.lt_iff_toInt_lt.mpr y)
    have a2 : ¬ b.toInt < p.toInt := fun y => z2 (Int32.lt_iff_toInt_lt.mpr y)
    omega
theorem mo_over {p a b : Int32} {Q Q2 : Int32 → Int32 → Prop} (h : w_X11_endSearchOver p a b Q) (k : ∀ x y : Int32, Q x y → Q2 x y) : w_X11_endSearchOver p a b Q2 := by
  unfold w_X11_endSearchOver w_X11_endSearchOver_12 w_X11_endSearch at *
  exact ⟨fun z => k _ _ (h.1 z), fun z => k _ _ (h.2 z)⟩
theorem mo_add {p c : Int32} {o : Bool} {it : Nat → Int32} {nv : Nat} {Q Q2 : Int32 → Bool → (Nat → Int32) → Prop} (h : w_X7_add p c o it nv Q) (h0 : 0 ≤ c.toInt) (h1 : c.toInt < nv) (h2 : nv ≤ 1000) (k : ∀ (c2 : Int32) (o2 : Bool) (it2 : Nat → Int32), c2.toInt = c.toInt + 1 → it2 = upd it c.toNatClampNeg p → Q c2 o2 it2 → Q2 c2 o2 it2) : w_X7_add p c o it nv Q2 := by
  unfold w_X7_add w_X7_add_42 w_X7_add_47 at *
  refine ⟨fun z => absurd (Int32.lt_iff_toInt_lt.mp z) (by have q : (0 : Int32).toInt = 0 := rfl; omega), fun z x e => ⟨fun z2 => absurd (Int32.le_iff_toInt_le.mp z2) (by have q := i_len e (by omega); omega), fun z2 => ⟨((h.2 z x e).2 z2).1, fun g eg x6 e6 => k _ _ _ (i_add (a := c.toInt) (b := 1) e6 rfl rfl (by omega) (by omega)) eg (((h.2 z x e).2 z2).2 g eg x6 e6)⟩⟩⟩
theorem mo_put50 {p1 p2 : Int32} {w : Int64} {nv : Nat} {it : Nat → Int32} {cn : Int32} {Q : Int32 → Int32 → Int32 → Int32 → Bool → Bool → (Nat → Int32) → Prop} {os ob : Int32} {th : Bool} (hn : nv = 100) (hc : 0 ≤ cn.toInt) (hp : (0 ≤ p1.toInt ∧ p1.toInt ≤ 3) ∧ (0 ≤ p2.toInt ∧ p2.toInt ≤ 4) ∧ cn.toInt + p2.toInt ≤ 100) (k9 : Nat) : ∀ (l6 c2 : Int32) (o2 : Bool) (it2 : Nat → Int32), -1 ≤ l6.toInt → l6.toInt ≤ 3 → c2.toInt + l6.toInt = cn.toInt + p2.toInt - 1 → l6.toInt ≤ p2.toInt - 1 → pPs it cn.toInt p2.toInt w (p2.toInt - 1 - l6.toInt) it2 → w_X11_put_50 p1 w nv Q os ob th k9 l6 c2 o2 it2 → w_X11_put_50 p1 w nv (fun r a b c d e g => Q r a b c d e g ∧ zPc p1.toInt p2.toInt w cn.toInt cn.toInt it g) os ob th k9 l6 c2 o2 it2 := by
  induction k9 with
  | zero => intro l6 c2 o2 it2 _ _ _ _ _ h; exact h
  | succ k ih =>
    intro l6 c2 o2 it2 a1 a2 a3 a4 hz h
    have q0 : (0 : Int32).toInt = 0 := rfl
    have q1 : (-1 : Int32).toInt = -1 := rfl
    show w_X11_put_50B p1 w nv (fun r a b c d e g => Q r a b c d e g ∧ zPc p1.toInt p2.toInt w cn.toInt cn.toInt it g) (w_X11_put_50 p1 w nv (fun r a b c d e g => Q r a b c d e g ∧ zPc p1.toInt p2.toInt w cn.toInt cn.toInt it g) os ob th k) os ob th l6 c2 o2 it2
    have h : w_X11_put_50B p1 w nv Q (w_X11_put_50 p1 w nv Q os ob th k) os ob th l6 c2 o2 it2 := h
    unfold w_X11_put_50B at *
    refine ⟨fun z => mo_over (h.1 z) (fun x y hq => ⟨hq, zPc_yes hp ?_⟩), fun z x14 e14 y15 e15 x16 e16 x17 e17 => mo_add (h.2 z x14 e14 y15 e15 x16 e16 x17 e17) ?_ ?_ (by omega) (fun c3 o3 it3 b1 b2 hq x20 e20 => ?_)⟩
    · have z := Int32.lt_iff_toInt_lt.mp z
      have e : p2.toInt - 1 - l6.toInt = p2.toInt := by omega
      rw [e] at hz
      exact hz
    · omega
    · have z : ¬ l6.toInt < 0 := fun y => z (Int32.lt_iff_toInt_lt.mpr y)
      omega
    · have z : ¬ l6.toInt < 0 := fun y => z (Int32.lt_iff_toInt_lt.mpr y)
      have f20 : x20.toInt = l6.toInt + (-1) := i_add (a := l6.toInt) (b := -1) e20 rfl rfl (by omega) (by omega)
      have hv := pbt_c e14 e15 e16 e17 (by omega) a2
      refine ih x20 c3 o3 it3 (by omega) (by omega) (by omega) (by omega) (pPs_s hz b2 ?_ hc (by omega) (by omega) (by omega)) (hq x20 e20)
      rw [hv]
      exact congrArg (pbt w) (by omega)
theorem sx_X11_put {p1 p2 : Int32} {w : Int64} {os ob : Int32} {sb : Nat → Option Nat} {cn : Int32} {ov th : Bool} {it : Nat → Int32} {nv h2 : Nat} {Q : Int32 → Int32 → Int32 → Int32 → Bool → Bool → (Nat → Int32) → Prop} (h : w_X11_put p1 p2 w os ob sb cn ov th it nv h2 Q) (hn : nv = 100) (hc : 0 ≤ cn.toInt) (hc2 : cn.toInt ≤ 100) : w_X11_put p1 p2 w os ob sb cn ov th it nv h2 (fun r a b c d e g => Q r a b c d e g ∧ zPc p1.toInt p2.toInt w cn.toInt cn.toInt it g) := by
  unfold w_X11_put w_X11_put_19 at *
  have q0 : (0 : Int32).toInt = 0 := rfl
  have q4 : (4 : Int32).toInt = 4 := rfl
  have q100 : (100 : Int32).toInt = 100 := rfl
  refine mo_isSubject h (fun r z1 z2 hq => ⟨fun z => ?_, fun z => ⟨hq.2 z, zPc_no (fun y => z1 z y.1)⟩⟩)
  have hi := z2 z
  refine ⟨fun y => ⟨(hq.1 z).1 y, zPc_no (fun u => ?_)⟩, fun y => ⟨fun v => ⟨(((hq.1 z).2 y).1 v).1, (((hq.1 z).2 y).1 v).2.1, fun x6 e6 => ⟨fun u x9 e9 => ?_, fun u => ⟨((((hq.1 z).2 y).1 v).2.2 x6 e6).2 u, zPc_no (fun t => ?_)⟩⟩⟩, fun v => ⟨((hq.1 z).2 y).2 v, zPc_no (fun u => ?_)⟩⟩⟩
  · have y := Int32.lt_iff_toInt_lt.mp y
    omega
  · obtain ⟨k9, hk⟩ := ((((hq.1 z).2 y).1 v).2.2 x6 e6).1 u x9 e9
    have y : ¬ p2.toInt < 0 := fun t => y (Int32.lt_iff_toInt_lt.mpr t)
    have v := Int32.le_iff_toInt_le.mp v
    have f6 : x6.toInt = cn.toInt + p2.toInt := i_add (a := cn.toInt) (b := p2.toInt) e6 rfl rfl (by omega) (by omega)
    have f9 : x9.toInt = p2.toInt - 1 := i_sub (a := p2.toInt) (b := 1) e9 rfl rfl (by omega) (by omega)
    have u := Int32.le_iff_toInt_le.mp u
    exact ⟨k9, mo_put50 hn hc ⟨hi, ⟨by omega, by omega⟩, by omega⟩ k9 x9 cn ov it (by omega) (by omega) (by omega) (by omega) (pPs_0 (by omega)) hk⟩
  · have y : ¬ p2.toInt < 0 := fun t => y (Int32.lt_iff_toInt_lt.mpr t)
    have v := Int32.le_iff_toInt_le.mp v
    have f6 : x6.toInt = cn.toInt + p2.toInt := i_add (a := cn.toInt) (b := p2.toInt) e6 rfl rfl (by omega) (by omega)
    have u : ¬ x6.toInt ≤ 100 := fun t => u (Int32.le_iff_toInt_le.mpr t)
    omega
  · have v : ¬ p2.toInt ≤ 4 := fun t => v (Int32.le_iff_toInt_le.mpr t)
    omega
theorem mo_mput65 {p1 p2 : Int32} {w : Int64} {gs : Int32} {sg : Nat → Int32} {had : Int32} {Q : Int32 → Int32 → Bool → (Nat → Bool) → (Nat → Int32) → (Nat → Int32) → Prop} {th : Int32} {ig : Bool} {is : Nat → Bool} {l0 : Nat → Int32} (hh : 0 ≤ had.toInt) (hp : (0 ≤ p1.toInt ∧ p1.toInt ≤ 3) ∧ (0 ≤ p2.toInt ∧ p2.toInt ≤ 4) ∧ had.toInt + p2.toInt ≤ 100) (k9 : Nat) : ∀ (l6 : Int32) (sg2 : Nat → Int32), 0 ≤ l6.toInt → l6.toInt ≤ p2.toInt → pPs sg (100 * p1.toInt + had.toInt) p2.toInt w l6.toInt sg2 → w_X12_put__65 p1 p2 w gs Q had th ig is l0 k9 l6 sg2 → w_X12_put__65 p1 p2 w gs (fun r a b c d g => Q r a b c d g ∧ zPc p1.toInt p2.toInt w had.toInt (100 * p1.toInt + had.toInt) sg g) had th ig is l0 k9 l6 sg2 := by
  induction k9 with
  | zero => intro l6 sg2 _ _ _ h; exact h
  | succ k ih =>
    intro l6 sg2 a1 a2 hz h
    show w_X12_put__65B p1 p2 w gs (fun r a b c d g => Q r a b c d g ∧ zPc p1.toInt p2.toInt w had.toInt (100 * p1.toInt + had.toInt) sg g) (w_X12_put__65 p1 p2 w gs (fun r a b c d g => Q r a b c d g ∧ zPc p1.toInt p2.toInt w had.toInt (100 * p1.toInt + had.toInt) sg g) had th ig is l0 k) had th ig is l0 l6 sg2
    have h : w_X12_put__65B p1 p2 w gs Q (w_X12_put__65 p1 p2 w gs Q had th ig is l0 k) had th ig is l0 l6 sg2 := h
    unfold w_X12_put__65B w_X12_put__145 w_X12_put__146 at *
    refine ⟨fun z => ?_, fun z x20 e20 x21 e21 x22 e22 x23 e23 x24 e24 x25 e25 y26 e26 y27 e27 x28 e28 => ⟨(h.2 z x20 e20 x21 e21 x22 e22 x23 e23 x24 e24 x25 e25 y26 e26 y27 e27 x28 e28).1, fun g eg x31 e31 => ?_⟩⟩
    · have z' := Int32.le_iff_toInt_le.mp z
      have e : l6.toInt = p2.toInt := by omega
      rw [e] at hz
      have hY := zPc_yes hp hz
      have h1 := h.1 z
      refine ⟨h1.1, fun g12 e12 x13 e13 => ⟨(h1.2 g12 e12 x13 e13).1, fun g15 e15 => ⟨fun y => ⟨(((h1.2 g12 e12 x13 e13).2 g15 e15).1 y).1, fun b eb x ex => ⟨(((h1.2 g12 e12 x13 e13).2 g15 e15).1 y).2 b eb x ex, hY⟩⟩, fun y => ⟨fun v => ⟨((((h1.2 g12 e12 x13 e13).2 g15 e15).2 y).1 v).1, fun b eb x ex => ⟨((((h1.2 g12 e12 x13 e13).2 g15 e15).2 y).1 v).2 b eb x ex, hY⟩⟩, fun v => ⟨((((h1.2 g12 e12 x13 e13).2 g15 e15).2 y).2 v).1, fun b eb x ex => ⟨((((h1.2 g12 e12 x13 e13).2 g15 e15).2 y).2 v).2 b eb x ex, hY⟩⟩⟩⟩⟩⟩
    · have z : ¬ p2.toInt ≤ l6.toInt := fun y => z (Int32.le_iff_toInt_le.mpr y)
      have f20 : x20.toInt = 100 * p1.toInt := i_mul (a := 100) (b := p1.toInt) e20 rfl rfl (by omega) (by omega)
      have f21 : x21.toInt = x20.toInt + had.toInt := i_add (a := x20.toInt) (b := had.toInt) e21 rfl rfl (by omega) (by omega)
      have f22 : x22.toInt = x21.toInt + l6.toInt := i_add (a := x21.toInt) (b := l6.toInt) e22 rfl rfl (by omega) (by omega)
      have f23 : x23.toInt = p2.toInt - 1 := i_sub (a := p2.toInt) (b := 1) e23 rfl rfl (by omega) (by omega)
      have f24 : x24.toInt = x23.toInt - l6.toInt := i_sub (a := x23.toInt) (b := l6.toInt) e24 rfl rfl (by omega) (by omega)
      have f31 : x31.toInt = l6.toInt + 1 := i_add (a := l6.toInt) (b := 1) e31 rfl rfl (by omega) (by omega)
      have hv := pbt_m e25 e26 e27 e28
      have hq := (h.2 (fun y => z (Int32.le_iff_toInt_le.mp y)) x20 e20 x21 e21 x22 e22 x23 e23 x24 e24 x25 e25 y26 e26 y27 e27 x28 e28).2 g eg x31 e31
      refine ih x31 g (by omega) (by omega) (pPs_s hz eg ?_ (by omega) a1 (by omega) f31) hq
      rw [hv]
      exact congrArg (pbt w) (by omega)
theorem sx_X12_put_ {p1 p2 : Int32} {w : Int64} {ig : Bool} {gs : Int32} {is : Nat → Bool} {l0 sg : Nat → Int32} {Q : Int32 → Int32 → Bool → (Nat → Bool) → (Nat → Int32) → (Nat → Int32) → Prop} (h : w_X12_put_ p1 p2 w ig gs is l0 sg Q) (hl : rp (fun k v => 0 ≤ v ∧ v ≤ 100) l0 0 4) : w_X12_put_ p1 p2 w ig gs is l0 sg (fun r a b c d g => Q r a b c d g ∧ zPc p1.toInt p2.toInt w (zln is l0 p1.toInt) (100 * p1.toInt + zln is l0 p1.toInt) sg g) := by
  unfold w_X12_put_ at *
  have q0 : (0 : Int32).toInt = 0 := rfl
  have q3 : (3 : Int32).toInt = 3 := rfl
  have q4 : (4 : Int32).toInt = 4 := rfl
  have q100 : (100 : Int32).toInt = 100 := rfl
  refine mo_in h (fun r z1 z2 hq => ⟨fun z => ?_, fun z => ⟨hq.2 z, zPc_no (fun y => z1 z (by omega))⟩⟩)
  have hi := z2 z
  refine mo_in (hq.1 z) (fun r3 y1 y2 hr => ⟨fun y => ?_, fun y => ⟨hr.2 y, zPc_no (fun u => y1 y (by omega))⟩⟩)
  have hj := y2 y
  have key : ∀ s0 : Int32, s0.toInt = zln is l0 p1.toInt → 0 ≤ s0.toInt → s0.toInt ≤ 100 → w_X12_put__48 p1 p2 w gs Q s0 0 ig is l0 sg → w_X12_put__48 p1 p2 w gs (fun r a b c d g => Q r a b c d g ∧ zPc p1.toInt p2.toInt w (zln is l0 p1.toInt) (100 * p1.toInt + zln is l0 p1.toInt) sg g) s0 0 ig is l0 sg := by
    intro s0 e0 b0 b1 hs
    unfold w_X12_put__48 at *
    intro x8 e8
    have f8 : x8.toInt = s0.toInt + p2.toInt := i_add (a := s0.toInt) (b := p2.toInt) e8 rfl rfl (by omega) (by omega)
    refine ⟨fun u => ?_, fun u => ⟨(hs x8 e8).2 u, zPc_no (fun t => ?_)⟩⟩
    · obtain ⟨k9, hk⟩ := (hs x8 e8).1 u
      have u := Int32.le_iff_toInt_le.mp u
      rw [← e0]
      exact ⟨k9, mo_mput65 b0 ⟨by omega, by omega, by omega⟩ k9 0 sg (by omega) (by omega) (pPs_0 q0) hk⟩
    · have u : ¬ x8.toInt ≤ 100 := fun t => u (Int32.le_iff_toInt_le.mpr t)
      omega
  refine ⟨(hr.1 y).1, fun x6 e6 => ⟨fun u => key 0 ?_ (by omega) (by omega) (((hr.1 y).2 x6 e6).1 u), fun u => ⟨(((hr.1 y).2 x6 e6).2 u).1, fun x34 e34 => key x34 ?_ ?_ ?_ ((((hr.1 y).2 x6 e6).2 u).2 x34 e34)⟩⟩⟩
  · have hb : is p1.toNatClampNeg = false := by
      rw [e6] at u
      exact bz_f (by rw [u]; rfl)
    unfold zln
    rw [show is p1.toInt.toNat = false from hb, if_neg (by decide)]
    rfl
  · have hb : is p1.toNatClampNeg = true := by
      cases hz : is p1.toNatClampNeg with
      | true => rfl
      | false => exact absurd (by rw [e6, hz]; rfl) u
    unfold zln zg
    rw [show is p1.toInt.toNat = true from hb, if_pos rfl, e34]
    rfl
  · have hl1 := hl p1.toNatClampNeg (by have e := i_cl (x := p1) (by omega); omega) (by have e := i_cl (x := p1) (by omega); omega)
    rw [e34]; exact hl1.1
  · have hl1 := hl p1.toNatClampNeg (by have e := i_cl (x := p1) (by omega); omega) (by have e := i_cl (x := p1) (by omega); omega)
    rw [e34]; exact hl1.2
def zSg (p1 p2 : Int) (is : Nat → Bool) (l0 sg : Nat → Int32) (r t : Int32) : Prop := (¬ (0 ≤ p1 ∧ p1 ≤ 3) → t.toInt = 2) ∧ ((0 ≤ p1 ∧ p1 ≤ 3) → is p1.toNat = false → t.toInt = 1) ∧ ((0 ≤ p1 ∧ p1 ≤ 3) → is p1.toNat = true → ¬ (0 ≤ p2 ∧ p2 < zg l0 p1) → t.toInt = 2) ∧ ((0 ≤ p1 ∧ p1 ≤ 3) → is p1.toNat = true → 0 ≤ p2 ∧ p2 < zg l0 p1 → t.toInt = 0 ∧ r = ((sg (100 * p1 + p2).toNat).toUInt32 % 65536).toInt32)
theorem sx_sign48 {p1 p2 : Int32} {sg : Nat → Int32} {Q P : Int32 → Int32 → Prop} {s0 th : Int32} (h : w_X12_sign_48 p1 p2 sg Q s0 th) (k1 : ¬ s0 = 0 → P 32 s0) (k2 : s0 = 0 → ∀ x : Int32, x.toInt = 100 * p1.toInt + p2.toInt → ∀ y : Int32, y = ((sg x.toNatClampNeg).toUInt32 % 65536).toInt32 → P y s0) (hr : s0 = 0 → (0 ≤ p1.toInt ∧ p1.toInt ≤ 3) ∧ 0 ≤ p2.toInt ∧ p2.toInt ≤ 100) : w_X12_sign_48 p1 p2 sg (fun r t => Q r t ∧ P r t) s0 th := by
  unfold w_X12_sign_48 w_X12_sign_75 at *
  refine ⟨fun z => ⟨(h.1 z).1, (h.1 z).2, k1 z⟩, fun z x4 e4 x5 e5 => ⟨(h.2 z x4 e4 x5 e5).1, fun x6 e6 x7 e7 => ⟨((h.2 z x4 e4 x5 e5).2 x6 e6 x7 e7).1, ((h.2 z x4 e4 x5 e5).2 x6 e6 x7 e7).2, k2 z x5 ?_ x7 (by rw [e7, e6])⟩⟩⟩
  obtain ⟨a1, a2⟩ := hr z
  have f4 : x4.toInt = 100 * p1.toInt := i_mul (a := 100) (b := p1.toInt) e4 rfl rfl (by omega) (by omega)
  have f5 : x5.toInt = x4.toInt + p2.toInt := i_add (a := x4.toInt) (b := p2.toInt) e5 rfl rfl (by omega) (by omega)
  omega
theorem sx_X12_sign {p1 p2 th : Int32} {is : Nat → Bool} {l0 sg : Nat → Int32} {Q : Int32 → Int32 → Prop} (h : w_X12_sign p1 p2 th is l0 sg Q) (hl : rp (fun k v => 0 ≤ v ∧ v ≤ 100) l0 0 4) : w_X12_sign p1 p2 th is l0 sg (fun r t => Q r t ∧ zSg p1.toInt p2.toInt is l0 sg r t) := by
  have q0 : (0 : Int32).toInt = 0 := rfl
  have q1 : (1 : Int32).toInt = 1 := rfl
  have q2 : (2 : Int32).toInt = 2 := rfl
  have q3 : (3 : Int32).toInt = 3 := rfl
  unfold w_X12_sign at *
  refine mo_in h (fun r z1 z2 hq => ⟨fun z => ?_, fun z => sx_sign48 (hq.2 z) (fun _ => ?_) (fun y => absurd y (by decide)) (fun y => absurd y (by decide))⟩)
  · have hi := z2 z
    have hc := i_cl (x := p1) (by omega)
    have hl1 := hl p1.toNatClampNeg (by omega) (by omega)
    refine ⟨(hq.1 z).1, fun x10 e10 => ⟨fun u => ⟨(((hq.1 z).2 x10 e10).1 u).1, fun x12 e12 x13 e13 => ?_⟩, fun u => sx_sign48 (((hq.1 z).2 x10 e10).2 u) (fun _ => ?_) (fun y => absurd y (by decide)) (fun y => absurd y (by decide))⟩⟩
    · have ht : is p1.toInt.toNat = true := by
        cases hz : is p1.toNatClampNeg with
        | true => exact hz
        | false => exact absurd (by rw [e10, hz]; rfl) u
      have f13 : x13.toInt = x12.toInt - 1 := i_sub (a := x12.toInt) (b := 1) e13 rfl rfl (by rw [e12]; omega) (by rw [e12]; omega)
      have e12' : x12.toInt = zg l0 p1.toInt := by rw [e12]; rfl
      have hz0 : zg l0 p1.toInt ≤ 100 := hl1.2
      refine mo_in ((((hq.1 z).2 x10 e10).1 u).2 x12 e12 x13 e13) (fun r14 y1 y2 hr => ⟨fun y => sx_sign48 (hr.1 y) (fun t => absurd rfl t) (fun _ x ex v ev => ?_) (fun _ => ?_), fun y => sx_sign48 (hr.2 y) (fun _ => ?_) (fun t => absurd t (by decide)) (fun t => absurd t (by decide))⟩)
      · have hj := y2 y
        refine ⟨fun t => absurd (by omega) t, fun _ t => ?_, fun _ _ t => absurd (by omega) t, fun _ _ _ => ⟨q0, ?_⟩⟩
        · rw [ht] at t; cases t
        · rw [ev]
          have hx : x.toNatClampNeg = (100 * p1.toInt + p2.toInt).toNat := by rw [← ex]; rfl
          rw [hx]
      · have hj := y2 y
        omega
      · have hj := y1 y
        refine ⟨fun _ => q2, fun _ t => ?_, fun _ _ _ => q2, fun _ _ t => absurd (by omega) hj⟩
        rw [ht] at t; cases t
    · have hb : is p1.toInt.toNat = false := by
        have u' : bz (is p1.toNatClampNeg) = 0 := by rw [← e10]; exact u
        exact bz_f (by show (bz (is p1.toNatClampNeg)).toInt = 0; rw [u']; rfl)
      refine ⟨fun t => absurd (by omega) t, fun _ _ => q1, fun _ t => ?_, fun _ t => ?_⟩
      · rw [hb] at t; cases t
      · rw [hb] at t; cases t
  · have hi := z1 z
    exact ⟨fun _ => q2, fun t => absurd (by omega) hi, fun t => absurd (by omega) hi, fun t => absurd (by omega) hi⟩
def zSc (p1 p2 : Int) (th : Bool) (cn : Int32) (it : Nat → Int32) (c r : Int32) : Prop := (¬ (0 ≤ p1 ∧ p1 ≤ 3) → c.toInt = 2) ∧ ((0 ≤ p1 ∧ p1 ≤ 3) → th = false → c.toInt = 1) ∧ ((0 ≤ p1 ∧ p1 ≤ 3) → th = true → ¬ (0 ≤ p2 ∧ p2 < cn.toInt) → c.toInt = 2) ∧ ((0 ≤ p1 ∧ p1 ≤ 3) → th = true → 0 ≤ p2 ∧ p2 < cn.toInt → c.toInt = 0 ∧ r = ((it p2.toNat).toUInt32 % 65536).toInt32)
theorem mo_at {p c : Int32} {it : Nat → Int32} {nv : Nat} {Q Q2 : Int32 → Prop} (h : w_X7_at p c it nv Q) (h0 : 0 ≤ p.toInt) (h1 : p.toInt < c.toInt) (h2 : c.toInt ≤ nv) (h3 : nv ≤ 1000) (k : ∀ r : Int32, r = it p.toNatClampNeg → Q r → Q2 r) : w_X7_at p c it nv Q2 := by
  have q0 : (0 : Int32).toInt = 0 := rfl
  unfold w_X7_at w_X7_at_30 w_X7_at_31 at *
  exact ⟨fun z => absurd (Int32.lt_iff_toInt_lt.mp z) (by omega), fun z => ⟨fun y => absurd (Int32.le_iff_toInt_le.mp y) (by omega), fun y x e => ⟨fun u => absurd (Int32.le_iff_toInt_le.mp u) (by have q := i_len e (by omega); omega), fun u => ⟨((((h.2 z).2 y) x e).2 u).1, fun x5 e5 => k x5 e5 (((((h.2 z).2 y) x e).2 u).2 x5 e5)⟩⟩⟩⟩
def REL9 (sT : Nat → Bool) (sC : Nat → Int32) (sI : Nat → Nat → Int32) (MS : Nat → Int32) : Prop := ∀ k : Nat, k < 4 → sT k = true → (sC k).toInt ≤ 100 ∧ ∀ j : Nat, (j : Int) < (sC k).toInt → sI k j = MS (100 * k + j)
def REL (sT : Nat → Bool) (sC : Nat → Int32) (MT : Nat → Bool) (ML : Nat → Int32) (sI : Nat → Nat → Int32) (MS : Nat → Int32) : Prop := REL0 sT sC MT ML ∧ REL9 sT sC sI MS
theorem REL9_clear {sT : Nat → Bool} {sC : Nat → Int32} {MT : Nat → Bool} {ML : Nat → Int32} {sI : Nat → Nat → Int32} {MS : Nat → Int32} (h : REL0 sT sC MT ML) (hm : ∀ j : Int, 0 ≤ j → j < 4 → MT j.toNat = false) : REL9 sT sC sI MS := by
  intro k hk z
  have a := (h k hk).1
  have b := hm (k : Int) (by omega) (by omega)
  rw [show ((k : Int)).toNat = k from rfl, a, z] at b
  cases b
theorem REL9_keep {sT : Nat → Bool} {sC : Nat → Int32} {sI : Nat → Nat → Int32} {MS : Nat → Int32} {k : Nat} {t2 : Bool} {c2 : Int32} (h : REL9 sT sC sI MS) (hk : k < 4) (ht : (bz t2).toInt = (bz (sT k)).toInt) (hc : c2.toInt = (sC k).toInt) : REL9 (ug sT k t2) (ug sC k c2) sI MS := by
  have e1 := bz_i ht
  have e2 := Int32.toInt_inj.mp hc
  subst e1; subst e2
  intro q hq z
  have z : (if q = k then sT k else sT q) = true := z
  show ((if q = k then sC k else sC q)).toInt ≤ 100 ∧ ∀ j : Nat, (j : Int) < ((if q = k then sC k else sC q)).toInt → sI q j = MS (100 * q + j)
  by_cases e : q = k
  · rw [if_pos e] at z ⊢
    rw [e]
    exact h k hk z
  · rw [if_neg e] at z ⊢
    exact h q hq z
theorem REL9_drop {sT : Nat → Bool} {sC : Nat → Int32} {MT : Nat → Bool} {ML : Nat → Int32} {sI : Nat → Nat → Int32} {MS : Nat → Int32} {k : Nat} {T t2 : Bool} {Cn c2 p1 r : Int32} (h : REL sT sC MT ML sI MS) (hk : k < 4) (eT : T = sT k) (eC : Cn = sC k)
    (hx : (¬ (0 ≤ p1.toInt ∧ p1.toInt ≤ 3) ∧ r.toInt = -2 ∧ (c2.toInt = Cn.toInt ∧ (bz t2).toInt = (bz T).toInt)) ∨ ((0 ≤ p1.toInt ∧ p1.toInt ≤ 3) ∧ (bz T).toInt = 0 ∧ r.toInt = -3 ∧ (c2.toInt = Cn.toInt ∧ (bz t2).toInt = (bz T).toInt)) ∨ ((0 ≤ p1.toInt ∧ p1.toInt ≤ 3) ∧ (bz T).toInt = 1 ∧ r.toInt = Cn.toInt ∧ c2.toInt = 0 ∧ (bz t2).toInt = 0)) : REL9 (ug sT k t2) (ug sC k c2) sI MS := by
  subst eT; subst eC
  rcases hx with ⟨-, -, a3, a4⟩ | ⟨-, -, -, a3, a4⟩ | ⟨-, -, -, a3, a4⟩
  · exact REL9_keep h.2 hk a4 a3
  · exact REL9_keep h.2 hk a4 a3
  · intro q hq z
    have z : (if q = k then t2 else sT q) = true := z
    show ((if q = k then c2 else sC q)).toInt ≤ 100 ∧ ∀ j : Nat, (j : Int) < ((if q = k then c2 else sC q)).toInt → sI q j = MS (100 * q + j)
    by_cases e : q = k
    · rw [if_pos e, bz_f a4] at z; cases z
    · rw [if_neg e] at z ⊢
      exact h.2 q hq z
theorem REL9_put {sT : Nat → Bool} {sC : Nat → Int32} {MT : Nat → Bool} {ML : Nat → Int32} {sI : Nat → Nat → Int32} {MS MS2 It It2 : Nat → Int32} {k : Nat} {T t2 : Bool} {Cn c2 p1 p2 r : Int32} {w : Int64} (h : REL sT sC MT ML sI MS) (hk : k < 4) (hv : 0 ≤ p1.toInt → p1.toInt < 4 → p1.toNatClampNeg = k) (eT : T = sT k) (eC : Cn = sC k) (eI : It = sI k) (h00 : 0 ≤ Cn.toInt)
    (hx : (¬ (0 ≤ p1.toInt ∧ p1.toInt ≤ 3) ∧ r.toInt = -2 ∧ (c2.toInt = Cn.toInt ∧ (bz t2).toInt = (bz T).toInt)) ∨ ((0 ≤ p1.toInt ∧ p1.toInt ≤ 3) ∧ ¬ (0 ≤ p2.toInt ∧ p2.toInt ≤ 4) ∧ r.toInt = -4 ∧ (c2.toInt = Cn.toInt ∧ (bz t2).toInt = (bz T).toInt)) ∨ ((0 ≤ p1.toInt ∧ p1.toInt ≤ 3) ∧ (0 ≤ p2.toInt ∧ p2.toInt ≤ 4) ∧ 100 < Cn.toInt + p2.toInt ∧ r.toInt = -9 ∧ (c2.toInt = Cn.toInt ∧ (bz t2).toInt = (bz T).toInt)) ∨ ((0 ≤ p1.toInt ∧ p1.toInt ≤ 3) ∧ (0 ≤ p2.toInt ∧ p2.toInt ≤ 4) ∧ Cn.toInt + p2.toInt ≤ 100 ∧ r.toInt = Cn.toInt + p2.toInt ∧ c2.toInt = Cn.toInt + p2.toInt ∧ (bz t2).toInt = 1))
    (hc : zPc p1.toInt p2.toInt w Cn.toInt Cn.toInt It It2) (hs : zPc p1.toInt p2.toInt w (zln MT ML p1.toInt) (100 * p1.toInt + zln MT ML p1.toInt) MS MS2) : REL9 (ug sT k t2) (ug sC k c2) (ug sI k It2) MS2 := by
  subst eT; subst eC; subst eI
  obtain ⟨h0, h9⟩ := h
  obtain ⟨h1, h2, h3⟩ := h0 k hk
  have hin : 0 ≤ p1.toInt ∧ p1.toInt ≤ 3 → p1.toInt.toNat = k := fun z => hv z.1 (by omega)
  have hln : 0 ≤ p1.toInt ∧ p1.toInt ≤ 3 → zln MT ML p1.toInt = (sC k).toInt := by
    intro z
    unfold zln zg
    rw [hin z, h1]
    cases e : sT k
    · rw [if_neg (by decide)]; exact (h3 e).symm
    · rw [if_pos rfl]; exact (h2 e).symm
  by_cases P : (0 ≤ p1.toInt ∧ p1.toInt ≤ 3) ∧ (0 ≤ p2.toInt ∧ p2.toInt ≤ 4) ∧ (sC k).toInt + p2.toInt ≤ 100
  · have e := hln P.1
    have e3 := hin P.1
    have A := hc.2 P
    have Bm := hs.2 ⟨P.1, P.2.1, by omega⟩
    rw [e] at Bm
    have g1 : c2.toInt = (sC k).toInt + p2.toInt := by omega
    intro q hq z
    have z : (if q = k then t2 else sT q) = true := z
    show ((if q = k then c2 else sC q)).toInt ≤ 100 ∧ ∀ j : Nat, (j : Int) < ((if q = k then c2 else sC q)).toInt → (if q = k then It2 else sI q) j = MS2 (100 * q + j)
    by_cases e4 : q = k
    · rw [if_pos e4, if_pos e4, e4]
      refine ⟨by omega, fun j hj => ?_⟩
      by_cases hj2 : (j : Int) < (sC k).toInt
      · have ht : sT k = true := by
          cases ez : sT k with
          | true => rfl
          | false => exact absurd (h3 ez) (by omega)
        rw [A.1 j (Or.inl hj2), Bm.1 (100 * k + j) (Or.inl (by omega))]
        exact (h9 k hk ht).2 j hj2
      · obtain ⟨i, hi⟩ : ∃ i : Nat, (i : Int) = (j : Int) - (sC k).toInt := ⟨((j : Int) - (sC k).toInt).toNat, Int.toNat_of_nonneg (by omega)⟩
        have a1 := A.2 i (by omega)
        have b1 := Bm.2 i (by omega)
        rw [show ((sC k).toInt + (i : Int)).toNat = j by omega] at a1
        rw [show (100 * p1.toInt + (sC k).toInt + (i : Int)).toNat = 100 * k + j by omega] at b1
        rw [a1, b1]
    · rw [if_neg e4] at z
      rw [if_neg e4, if_neg e4]
      obtain ⟨a1, a2⟩ := h9 q hq z
      refine ⟨a1, fun j hj => ?_⟩
      rw [a2 j hj, Bm.1 (100 * q + j) (by omega)]
  · have e1 := hc.1 P
    have e2 := hs.1 (fun u => P ⟨u.1, u.2.1, by have e := hln u.1; omega⟩)
    subst e1; subst e2
    have g1 : c2.toInt = (sC k).toInt := by omega
    have g2 : (bz t2).toInt = (bz (sT k)).toInt := by omega
    have hK := REL9_keep h9 hk g2 g1
    intro q hq z
    obtain ⟨a1, a2⟩ := hK q hq z
    refine ⟨a1, fun j hj => ?_⟩
    show (if q = k then sI k else sI q) j = MS2 (100 * q + j)
    by_cases e4 : q = k
    · rw [if_pos e4, ← e4]; exact a2 j hj
    · rw [if_neg e4]; exact a2 j hj
theorem sx_X11_sign {p1 p2 : Int32} {sb : Nat → Option Nat} {cn : Int32} {th : Bool} {it : Nat → Int32} {nv h2 : Nat} {Q : Int32 → Int32 → Prop} (h : w_X11_sign p1 p2 sb cn th it nv h2 Q) (a0 : 0 ≤ cn.toInt) (a1 : cn.toInt ≤ nv) (a2 : nv ≤ 1000) : w_X11_sign p1 p2 sb cn th it nv h2 (fun c r => zSc p1.toInt p2.toInt th cn it c r) := by
  have q0 : (0 : Int32).toInt = 0 := rfl
  have q1 : (1 : Int32).toInt = 1 := rfl
  have q2 : (2 : Int32).toInt = 2 := rfl
  unfold w_X11_sign w_X11_sign_49 at *
  refine mo_isSubject h (fun r z1 z2 hq => ⟨fun z => ?_, fun z => ⟨fun _ => q2, fun t => absurd t (z1 z), fun t => absurd t (z1 z), fun t => absurd t (z1 z)⟩⟩)
  have hi := z2 z
  refine ⟨(hq.1 z).1, (hq.1 z).2.1, fun u => ?_, fun u => ?_⟩
  · have ht : th = true := by
      cases hz : th with
      | true => rfl
      | false => exact absurd (by rw [hz]; rfl) u
    have hf : ∀ {X : Prop}, th = false → X := fun t => by rw [ht] at t; cases t
    refine ⟨fun y => ⟨fun t => absurd hi t, fun _ t => hf t, fun _ _ _ => q2, fun _ _ t => ?_⟩, fun y => ⟨fun v => ?_, fun v => ⟨fun t => absurd hi t, fun _ t => hf t, fun _ _ _ => q2, fun _ _ t => ?_⟩⟩⟩
    · have y := Int32.lt_iff_toInt_lt.mp y
      exfalso; omega
    · have hw := (((hq.1 z).2.2.1 u).2 y).1 v
      have y : ¬ p2.toInt < 0 := fun t => y (Int32.lt_iff_toInt_lt.mpr t)
      have v := Int32.lt_iff_toInt_lt.mp v
      refine mo_at hw (by omega) v a1 a2 (fun r8 e8 h8 x9 e9 => ⟨(h8 x9 e9).1, fun t => absurd hi t, fun _ t => hf t, fun _ _ t => absurd ⟨by omega, v⟩ t, fun _ _ _ => ⟨q0, ?_⟩⟩)
      rw [e9, e8]
      rfl
    · have v : ¬ p2.toInt < cn.toInt := fun t => v (Int32.lt_iff_toInt_lt.mpr t)
      exfalso; omega
  · have ht : th = false := by
      cases hz : th with
      | true => rw [hz] at u; exact absurd u (by decide)
      | false => rfl
    have hf : ∀ {X : Prop}, th = true → X := fun t => by rw [ht] at t; cases t
    exact ⟨fun t => absurd hi t, fun _ _ => q1, fun _ t => hf t, fun _ t => hf t⟩
theorem sign_eq {sT : Nat → Bool} {sC : Nat → Int32} {MT : Nat → Bool} {ML : Nat → Int32} {sI : Nat → Nat → Int32} {MS It : Nat → Int32} {k : Nat} {T : Bool} {Cn p1 p2 c r r2 t : Int32} (h : REL sT sC MT ML sI MS) (hk : k < 4) (hv : 0 ≤ p1.toInt → p1.toInt < 4 → p1.toNatClampNeg = k) (eT : T = sT k) (eC : Cn = sC k) (eI : It = sI k) (hx : zSc p1.toInt p2.toInt T Cn It c r) (hm : zSg p1.toInt p2.toInt MT ML MS r2 t) : t = c ∧ (c = 0 → r = r2) := by
  subst eT; subst eC; subst eI
  obtain ⟨h1, h2, h3⟩ := h.1 k hk
  obtain ⟨a1, a2, a3, a4⟩ := hx
  obtain ⟨b1, b2, b3, b4⟩ := hm
  have q0 : (0 : Int32).toInt = 0 := rfl
  have key : ∀ j : Int, t.toInt = j → c.toInt = j → ¬ j = 0 → t = c ∧ (c = 0 → r = r2) := fun j e1 e2 e3 => ⟨Int32.toInt_inj.mp (e1.trans e2.symm), fun z => by rw [z, q0] at e2; exact absurd e2.symm e3⟩
  by_cases P : 0 ≤ p1.toInt ∧ p1.toInt ≤ 3
  · have hin : p1.toInt.toNat = k := hv P.1 (by omega)
    rw [hin] at b2 b3 b4
    rw [h1] at b2 b3 b4
    cases ez : sT k with
    | false => exact key 1 (b2 P ez) (a2 P ez) (by decide)
    | true =>
      have e1 : zg ML p1.toInt = (ML k).toInt := by unfold zg; rw [hin]
      have e2 := h2 ez
      by_cases R : 0 ≤ p2.toInt ∧ p2.toInt < (sC k).toInt
      · obtain ⟨c1, c2⟩ := a4 P ez R
        obtain ⟨d1, d2⟩ := b4 P ez ⟨R.1, by omega⟩
        refine ⟨Int32.toInt_inj.mp (d1.trans c1.symm), fun _ => ?_⟩
        have e3 := (h.2 k hk ez).2 p2.toInt.toNat (by omega)
        have e4 : (100 * p1.toInt + p2.toInt).toNat = 100 * k + p2.toInt.toNat := by omega
        rw [c2, d2, e3, e4]
      · exact key 2 (b3 P ez (fun z => R ⟨z.1, by omega⟩)) (a3 P ez R) (by decide)
  · exact key 2 (b1 P) (a1 P) (by decide)
