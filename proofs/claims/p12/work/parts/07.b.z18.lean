def zb1 (f : Nat → Bool) (k : Int) : Int := if f k.toNat = true then 1 else 0
def zhi (f : Nat → Bool) (k : Int) : Int := if f (k + 128).toNat = true then 1 else 0
def zth (N : Nat) (f : Nat → Bool) : Int := zsm (zhi f) N
theorem zb1_nn (f : Nat → Bool) (k : Int) : 0 ≤ zb1 f k ∧ zb1 f k ≤ 1 := by unfold zb1; split <;> omega
theorem zth_set {N : Nat} (hN : (N : Int) = 65409) {f f' : Nat → Bool} {i : Int32} {b : Bool} (e : f' = updB f i.toNatClampNeg b) (h0 : 0 ≤ i.toInt) (h1 : i.toInt ≤ 65536) : zth N f' ≤ zth N f + (if 128 ≤ i.toInt then 1 else 0) := by
  unfold zth
  by_cases h : 128 ≤ i.toInt
  · rw [if_pos h]
    have ne : ∀ k : Int, 0 ≤ k → k < ((N : Nat) : Int) → k ≠ i.toInt - 128 → zhi f' k = zhi f k := fun k k0 k1 k2 => by
      unfold zhi; rw [zupdB_ne e h0 (by omega) (by omega)]
    have := zsm_upd (n := N) (j := i.toInt - 128) (by omega) (by omega) ne
    have a1 : zhi f' (i.toInt - 128) ≤ 1 := by unfold zhi; split <;> omega
    have a2 : 0 ≤ zhi f (i.toInt - 128) := by unfold zhi; split <;> omega
    omega
  · rw [if_neg h]
    have : zsm (zhi f') N = zsm (zhi f) N := zsm_congr (fun k k0 k1 => by unfold zhi; rw [zupdB_ne e h0 (by omega) (by omega)])
    omega
theorem zth_same {f f' : Nat → Bool} {i : Int32} {b : Bool} (e : f' = updB f i.toNatClampNeg b) (hb : b = true) (h : f i.toInt.toNat = true) : f' = f := by
  subst e; funext j
  show (if j = i.toInt.toNat then b else f j) = f j
  by_cases q : j = i.toInt.toNat
  · rw [if_pos q, q, h, hb]
  · rw [if_neg q]
theorem zmk_sign {N : Nat} (hN : (N : Int) = 65409) {f f1 f2 f3 f4 : Nat → Bool} {v w o o1 : Int32} {b1 b2 b3 b4 : Bool} (e1 : f1 = updB f v.toNatClampNeg b1) (e2 : f2 = updB f1 w.toNatClampNeg b2) (e3 : f3 = updB f2 o.toNatClampNeg b3) (e4 : f4 = updB f3 o1.toNatClampNeg b4) (hb : b1 = true ∧ b2 = true ∧ b3 = true ∧ b4 = true) (hv : 0 ≤ v.toInt ∧ v.toInt ≤ 65535) (hw : w.toInt = v.toInt + 1) (ho : 0 ≤ o.toInt ∧ o.toInt ≤ 65535) (ho1 : o1.toInt = o.toInt + 1) (hc : o.toInt = v.toInt ∨ (o.toInt ≤ 122 ∧ v.toInt ≤ 122)) : zth N f4 ≤ zth N f + 2 * zhx v.toInt := by
  have a1 := zth_set hN e1 hv.1 (by omega)
  have a2 := zth_set hN e2 (by omega) (by omega)
  by_cases q : o.toInt = v.toInt
  · have t1 : f1 v.toInt.toNat = true := by rw [zupdB_eq e1]; exact hb.1
    have t2 : f2 w.toInt.toNat = true := by rw [zupdB_eq e2]; exact hb.2.1
    have t3 : f2 v.toInt.toNat = true := by rw [zupdB_ne e2 (by omega) (by omega) (by omega)]; exact t1
    have s3 : f3 = f2 := zth_same e3 hb.2.2.1 (by rw [q]; exact t3)
    have s4 : f4 = f3 := zth_same e4 hb.2.2.2 (by rw [s3, show o1.toInt = w.toInt from by omega]; exact t2)
    rw [s4, s3]
    unfold zhx
    by_cases z : v.toInt < 32 ∨ 126 < v.toInt
    · rw [if_pos z]; split at a1 <;> split at a2 <;> omega
    · rw [if_neg z]; rw [if_neg (by omega)] at a1 a2; omega
  · have a3 := zth_set hN e3 (by omega) (by omega)
    have a4 := zth_set hN e4 (by omega) (by omega)
    rw [if_neg (by omega)] at a1 a2 a3 a4
    have := zhx_nn v.toInt
    omega
theorem zmk_low {N : Nat} (hN : (N : Int) = 65409) {f f1 : Nat → Bool} {i : Int32} {b : Bool} (e1 : f1 = updB f i.toNatClampNeg b) (h : 0 ≤ i.toInt ∧ i.toInt < 128) : zth N f1 ≤ zth N f := by
  have := zth_set hN e1 h.1 (by omega); rw [if_neg (by omega)] at this; omega
theorem zmk_part {N : Nat} (hN : (N : Int) = 65409) {f f1 f2 : Nat → Bool} {v w : Int32} {b1 b2 : Bool} {pb pe : Int} (e1 : f1 = updB f v.toNatClampNeg b1) (e2 : f2 = updB f1 w.toNatClampNeg b2) (hv : v.toInt = pb ∧ 0 ≤ pb ∧ pb ≤ 65535) (hw : w.toInt = pe + 1 ∧ 0 ≤ pe ∧ pe ≤ 65535) : zth N f2 ≤ zth N f + zhx pb + zhx pe := by
  have a1 := zth_set hN e1 (by omega) (by omega)
  have a2 := zth_set hN e2 (by omega) (by omega)
  have b1 : (if 128 ≤ v.toInt then (1 : Int) else 0) ≤ zhx pb := by
    unfold zhx; split <;> split <;> omega
  have b2 : (if 128 ≤ w.toInt then (1 : Int) else 0) ≤ zhx pe := by
    unfold zhx; split <;> split <;> omega
  omega
def zcB (f : Nat → Bool) (n : Nat) : Int := zsm (zb1 f) n
theorem zsm_split {f : Int → Int} {a : Nat} : ∀ {n : Nat}, zsm f (a + n) = zsm f a + zsm (fun k => f (k + a)) n := by
  intro n; induction n with
  | zero => show zsm f a = zsm f a + 0; omega
  | succ n ih =>
    show zsm f (a + n) + f ((a + n : Nat) : Int) = zsm f a + (zsm (fun k => f (k + a)) n + f ((n : Int) + a))
    rw [ih, show ((a + n : Nat) : Int) = (n : Int) + a from by omega]; omega
theorem zsm_ub {f : Int → Int} (h : ∀ k : Int, f k ≤ 1) : ∀ {n : Nat}, zsm f n ≤ n := by
  intro n; induction n with
  | zero => exact Int.le_refl _
  | succ n ih => have := h n; show zsm f n + f n ≤ _; omega
theorem zcB_th {N : Nat} (hN : (N : Int) = 65409) (f : Nat → Bool) : zcB f (128 + N) ≤ 128 + zth N f := by
  unfold zcB zth
  have e : zsm (zb1 f) (128 + N) = zsm (zb1 f) 128 + zsm (fun k => zb1 f (k + (128 : Nat))) N := zsm_split (a := 128) (n := N)
  have a := zsm_ub (f := zb1 f) (fun k => (zb1_nn f k).2) (n := 128)
  have e2 : zsm (fun k => zb1 f (k + (128 : Nat))) N = zsm (zhi f) N := zsm_congr (fun k _ _ => rfl)
  omega
def zNo (f : Nat → Bool) : Prop := ∀ k : Nat, k < 65537 → f k = false
theorem zNo_th {N : Nat} {f : Nat → Bool} (hN : (N : Int) = 65409) (h : zNo f) : zth N f = 0 := by
  unfold zth
  rw [zsm_congr (g := fun _ => 0) (fun k k0 k1 => by unfold zhi; rw [h _ (by omega)]; rfl)]
  have : ∀ n : Nat, zsm (fun _ => 0) n = 0 := by
    intro n; induction n with
    | zero => rfl
    | succ n ih => show zsm _ n + 0 = 0; rw [ih]; rfl
  exact this _
theorem zvn_nn (so va : Nat → Int32) (b k : Int) : 0 ≤ zvn so va b k := by unfold zvn; have := zhx_nn (zg va (b + k)); split <;> omega
theorem zmk_sg {N : Nat} (hN : (N : Int) = 65409) {f f1 f2 f3 f4 : Nat → Bool} {so va : Nat → Int32} {b k : Int} {x i v v2 v3 v4 i2 i3 i4 i5 w o o1 o2 : Int32} {b1 b2 b3 b4 : Bool} (ex : x = so i.toNatClampNeg) (ev : v = va i2.toNatClampNeg) (ev2 : v2 = va i3.toNatClampNeg) (ev3 : v3 = va i4.toNatClampNeg) (ev4 : v4 = va i5.toNatClampNeg) (e1 : f1 = updB f v.toNatClampNeg b1) (e2 : f2 = updB f1 w.toNatClampNeg b2) (e3 : f3 = updB f2 o.toNatClampNeg b3) (e4 : f4 = updB f3 o1.toNatClampNeg b4) (hb : b1 = true ∧ b2 = true ∧ b3 = true ∧ b4 = true) (hx : x.toInt = 0) (hi : i.toInt = b + k ∧ i2.toInt = b + k ∧ i3.toInt = b + k ∧ i4.toInt = b + k ∧ i5.toInt = b + k) (hv : 0 ≤ v.toInt ∧ v.toInt ≤ 65535) (hw : w.toInt = v2.toInt + 1) (ho : 0 ≤ o.toInt ∧ o.toInt ≤ 65535) (ho2 : 0 ≤ o2.toInt ∧ o2.toInt ≤ 65535) (ho1 : o1.toInt = o2.toInt + 1) (hc : o.toInt = v3.toInt ∨ (o.toInt ≤ 122 ∧ v3.toInt ≤ 122)) (hc2 : o2.toInt = v4.toInt ∨ (o2.toInt ≤ 122 ∧ v4.toInt ≤ 122)) (hoo : v3.toInt = v4.toInt → o2.toInt = o.toInt) : zth N f4 ≤ zth N f + zvn so va b k := by
  have q1 := zg_at2 ev hi.2.1; have q2 := zg_at2 ev2 hi.2.2.1; have q3 := zg_at2 ev3 hi.2.2.2.1; have q4 := zg_at2 ev4 hi.2.2.2.2
  have q0 := zg_at2 ex hi.1
  have := hoo (by omega)
  have r := zmk_sign hN e1 e2 e3 e4 hb hv (by omega) ho (by omega) (by omega)
  unfold zvn; rw [if_pos (by omega), ← q1]; exact r
def zml (pb pe : Nat → Int32) (q i j : Int) : Int := zsm (zvp pb pe q) (i - q).toNat - zsm (zvp pb pe q) (j - q).toNat
theorem zml_0 {pb pe : Nat → Int32} {q i : Int} : zml pb pe q i i = 0 := by unfold zml; omega
theorem zml_s {pb pe : Nat → Int32} {q j : Int} {i i' x y k : Int32} (ex : x = pb i.toNatClampNeg) (ey : y = pe k.toNatClampNeg) (hk : k.toInt = i.toInt) (hq : 0 ≤ q ∧ q ≤ i.toInt) (hi : i'.toInt = i.toInt + 1) : zml pb pe q i'.toInt j = zml pb pe q i.toInt j + zhx x.toInt + zhx y.toInt := by
  unfold zml
  rw [hi, show i.toInt + 1 - q = (i.toInt - q) + 1 from by omega, zsm_add (by omega)]
  have q1 := zg_at ex; have q2 := zg_at2 ey hk
  have : zvp pb pe q (i.toInt - q) = zhx x.toInt + zhx y.toInt := by unfold zvp; rw [show q + (i.toInt - q) = i.toInt from by omega, q1, q2]
  omega
theorem zml_e {so pa fp pb pe : Nat → Int32} {b q k j l : Int} {x i y : Int32} (ex : x = so i.toNatClampNeg) (hx : x.toInt = 2) (hi : i.toInt = b + k) (ey : y = fp i.toNatClampNeg) (hj : j = y.toInt) (hl : l = y.toInt + zg pa i.toInt) : zml pb pe q l j = zvr so pa fp pb pe b q k := by
  have q0 := zg_at2 ex hi
  have q1 := zg_at2 ey hi
  unfold zvr zml; rw [if_pos (by omega), hl, hj, q1, hi, show zg fp (b + k) + zg pa (b + k) - q = zg fp (b + k) - q + zg pa (b + k) from by omega]
theorem zvr_0 {so pa fp pb pe : Nat → Int32} {b q k : Int} {x i : Int32} (ex : x = so i.toNatClampNeg) (hx : x.toInt ≠ 2) (hi : i.toInt = b + k) : zvr so pa fp pb pe b q k = 0 := by
  have q0 := zg_at2 ex hi
  unfold zvr; rw [if_neg (by omega)]
theorem zsm_s1 {f : Int → Int} {k : Int} (h : 0 ≤ k) : zsm f (k + 1).toNat = zsm f k.toNat + f k := zsm_add h
theorem zS_66 {so va le mo ho pa en fp pb pe : Nat → Int32} {b q n c : Int} (h : zSl so va le mo ho pa en fp pb pe b q n c) : zsm (zvn so va b) n.toNat + zsm (zvr so pa fp pb pe b q) n.toNat ≤ 66 := by
  obtain ⟨s1, s2, s3, s4, p, p0, p1, s5, s6, s7, s8, s9⟩ := h
  exact s8
theorem zS_pb {so va le mo ho pa en fp pb pe : Nat → Int32} {b q n c k : Int} {x i y j v w : Int32} (h : zSl so va le mo ho pa en fp pb pe b q n c) (ex : x = fp i.toNatClampNeg) (ey : y = pa j.toNatClampNeg) (es : zg so (b + k) = 2) (hi : i.toInt = b + k) (hj : j.toInt = b + k) (k0 : 0 ≤ k) (k1 : k < n) (hw : x.toInt ≤ w.toInt ∧ w.toInt < x.toInt + y.toInt) (hq : 0 ≤ q) : (v = pb w.toNatClampNeg → 0 ≤ v.toInt ∧ v.toInt ≤ 65535) ∧ (v = pe w.toNatClampNeg → 0 ≤ v.toInt ∧ v.toInt ≤ 65535) := by
  obtain ⟨s1, s2, s3, s4, p, p0, p1, s5, s6, s7⟩ := h
  have d := (s5 k k0 k1).1.2.2.2.2.2.2.2.2.2.2.2 es
  have a1 := zg_at2 ex hi; have a2 := zg_at2 ey hj
  have z := s6 (w.toInt - q) (by omega) (by omega)
  rw [show q + (w.toInt - q) = w.toInt from by omega] at z
  exact ⟨fun e => by have := zg_at e; omega, fun e => by have := zg_at e; omega⟩
theorem zmb_0 {N : Nat} {f : Nat → Bool} {g h : Int → Int} : zth N f ≤ zth N f + zsm g (0 : Int32).toInt.toNat + zsm h (0 : Int32).toInt.toNat := by
  show zth N f ≤ zth N f + 0 + 0; omega
theorem zmb_s {N : Nat} {f f2 f3 f4 f5 : Nat → Bool} {g h : Int → Int} {k k' : Int32} (h1 : zth N f2 ≤ zth N f + zsm g k.toInt.toNat + zsm h k.toInt.toNat) (h2 : zth N f3 ≤ zth N f2 + g k.toInt) (h3 : zth N f4 ≤ zth N f3 + h k.toInt) (h4 : zth N f5 ≤ zth N f4) (hk : k'.toInt = k.toInt + 1) (h0 : 0 ≤ k.toInt) : zth N f5 ≤ zth N f + zsm g k'.toInt.toNat + zsm h k'.toInt.toNat := by
  rw [hk, zsm_s1 h0, zsm_s1 h0]; omega
theorem zmb_e {N : Nat} {f f2 : Nat → Bool} {so va le mo ho pa en fp pb pe : Nat → Int32} {b q n c k : Int} (h1 : zth N f2 ≤ zth N f + zsm (zvn so va b) k.toNat + zsm (zvr so pa fp pb pe b q) k.toNat) (hS : zSl so va le mo ho pa en fp pb pe b q n c) (hk : k = n) : zth N f2 ≤ zth N f + 66 := by
  subst hk; have := zS_66 hS; omega
theorem zS_fpo {so va le mo ho pa en fp pb pe : Nat → Int32} {b q n c k : Int} {x i s j : Int32} (h : zSl so va le mo ho pa en fp pb pe b q n c) (es : s = so j.toNatClampNeg) (ex : x = fp i.toNatClampNeg) (hj : j.toInt = b + k) (hi : i.toInt = b + k) (k0 : 0 ≤ k) (k1 : k < n) : s.toInt ≠ 2 ∨ (q ≤ x.toInt ∧ x.toInt ≤ q + 420) := by
  by_cases e : s.toInt = 2
  · exact Or.inr (zS_fp0 h ex hi k0 k1 (by rw [hi, ← zg_at2 es hj]; exact e))
  · exact Or.inl e
theorem zml_x {N : Nat} {f g : Nat → Bool} {so pa fp pb pe : Nat → Int32} {b q k l j m : Int} {x i : Int32} (h : zth N f ≤ zth N g + zml pb pe q l j) (h1 : (x.toInt ≠ 2 ∧ l = j) ∨ (x.toInt = 2 ∧ l ≤ m)) (ex : x = so i.toNatClampNeg) (hx : x.toInt ≠ 2) (hi : i.toInt = b + k) : zth N f ≤ zth N g + zvr so pa fp pb pe b q k := by
  rcases h1 with ⟨_, h1⟩ | ⟨h1, _⟩
  · rw [h1, zml_0] at h; rw [zvr_0 ex hx hi]; exact h
  · exact absurd h1 hx
theorem zml_y {N : Nat} {f g : Nat → Bool} {so pa fp pb pe : Nat → Int32} {b q k l j : Int} {x i y : Int32} (h : zth N f ≤ zth N g + zml pb pe q l j) (ex : x = so i.toNatClampNeg) (hx : x.toInt = 2) (hi : i.toInt = b + k) (ey : y = fp i.toNatClampNeg) (hj : j = y.toInt) (hl : l = y.toInt + zg pa i.toInt) : zth N f ≤ zth N g + zvr so pa fp pb pe b q k := by
  rw [← zml_e (l := l) (j := j) ex hx hi ey hj hl]; exact h
theorem zml_i {so va le mo ho pa en fp pb pe : Nat → Int32} {b q n c k l j : Int} {x i : Int32} (h : zSl so va le mo ho pa en fp pb pe b q n c) (ex : x = so i.toNatClampNeg) (hi : i.toInt = b + k) (k0 : 0 ≤ k) (k1 : k < n) (hl : l = j) : (x.toInt ≠ 2 ∧ l = j) ∨ (x.toInt = 2 ∧ l ≤ j + zg pa i.toInt) := by
  by_cases e : x.toInt = 2
  · have := zS_pa (k := k) h (y := pa i.toNatClampNeg) rfl hi k0 k1 (by rw [← zg_at2 ex hi]; exact e)
    have h7 : (pa i.toNatClampNeg).toInt = zg pa i.toInt := rfl
    exact Or.inr ⟨e, by omega⟩
  · exact Or.inl ⟨e, hl⟩
theorem zml_n {N : Nat} {f f2 g : Nat → Bool} {pb pe : Nat → Int32} {q j l' : Int} {i x y k : Int32} (h : zth N f ≤ zth N g + zml pb pe q i.toInt j) (ex : x = pb i.toNatClampNeg) (ey : y = pe k.toNatClampNeg) (hs : zth N f2 ≤ zth N f + zhx x.toInt + zhx y.toInt) (hk : k.toInt = i.toInt) (hq : 0 ≤ q ∧ q ≤ i.toInt) (hi : l' = i.toInt + 1) : zth N f2 ≤ zth N g + zml pb pe q l' j := by
  subst hi
  have : zml pb pe q (i.toInt + 1) j = zml pb pe q i.toInt j + zhx x.toInt + zhx y.toInt := by
    unfold zml
    rw [show i.toInt + 1 - q = (i.toInt - q) + 1 from by omega, zsm_add (by omega)]
    have q1 := zg_at ex; have q2 := zg_at2 ey hk
    have : zvp pb pe q (i.toInt - q) = zhx x.toInt + zhx y.toInt := by unfold zvp; rw [show q + (i.toInt - q) = i.toInt from by omega, q1, q2]
    omega
  omega
theorem zml_z {N : Nat} {f : Nat → Bool} {pb pe : Nat → Int32} {q l j : Int} (h : l = j) : zth N f ≤ zth N f + zml pb pe q l j := by subst h; rw [zml_0]; omega
