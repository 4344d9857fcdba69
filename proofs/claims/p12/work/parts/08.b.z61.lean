def zfi (m : Int) : Int := if m ≤ 0 then 0 else 1
theorem zfi_0 {m : Int} (h : m ≤ 0) : zfi m = 0 := if_pos h
theorem zfi_1 {m : Int} (h : 1 ≤ m) : zfi m = 1 := if_neg (by omega)
def zzz (m : Int) (en sz : Nat → Int32) (b : Int) : Int → Int := fun c => if m ≤ 0 then zg en (b + c) - c else zg sz (b + c)
theorem zCm {so va le mo ho pa en fp pb pe sz ps : Nat → Int32} {b q n c m : Int} (h : zSl so va le mo ho pa en fp pb pe b q n c) (hM : zMs so le mo en sz ps b 0 n) (hk : 1 ≤ m → zKb so b n) (hs : 1 ≤ m → zg sz b ≤ 200) :
    zZ so le mo en b n (zfi m) (zzz m en sz b) ∧ zzz m en sz b 0 ≤ 220 ∧ (zfi m = 1 → zKb so b n ∧ zzz m en sz b 0 ≤ 200) := by
  by_cases hm : m ≤ 0
  · have e1 : zzz m en sz b = fun c => zg en (b + c) - c := funext fun c => if_pos hm
    rw [zfi_0 hm, e1]
    exact ⟨zZ_n h, zZ_r h, fun z => absurd z (by decide)⟩
  · have e1 : zzz m en sz b = fun c => zg sz (b + c) := funext fun c => if_neg hm
    rw [zfi_1 (by omega), e1]
    have s := hs (by omega)
    have s0 : (fun c => zg sz (b + c)) 0 = zg sz b := by show zg sz (b + 0) = _; rw [Int.add_zero]
    refine ⟨zZ_f h hM, by rw [s0]; omega, fun _ => ⟨hk (by omega), by rw [s0]; omega⟩⟩
def zFi (fi : Nat → Int32) (n lg : Int) : Prop := ∀ f : Int, 0 ≤ f → f < n → (∀ a : Int, 0 ≤ a → a < 10 → (-1 ≤ zg fi (20 * f + 2 * a) ∧ zg fi (20 * f + 2 * a) ≤ 100) ∧ (-1 ≤ zg fi (20 * f + 2 * a + 1) ∧ zg fi (20 * f + 2 * a + 1) ≤ 100) ∧ (zg fi (20 * f + 2 * a) < 0 ∨ (zg fi (20 * f + 2 * a) ≤ zg fi (20 * f + 2 * a + 1) ∧ zg fi (20 * f + 2 * a + 1) ≤ lg))) ∧ 0 ≤ zg fi (20 * f) ∧ zg fi (20 * f) ≤ zg fi (20 * f + 1) ∧ zg fi (20 * f + 1) ≤ lg
def zFk (fi0 fi fo : Nat → Int32) (m k : Int) : Prop := (∀ j : Int, 0 ≤ j → j < k → zg fi (20 * m + j) = zg fo j) ∧ (∀ j : Int, 0 ≤ j → j < 20 * m → zg fi j = zg fi0 j)
theorem zFi_0 {fi : Nat → Int32} {lg n : Int} (h : n ≤ 0) : zFi fi n lg := fun f f0 f1 => by omega
theorem zFk_0 {fi fo : Nat → Int32} {m k : Int} (h : k ≤ 0) : zFk fi fi fo m k := ⟨fun j j0 j1 => by omega, fun j _ _ => rfl⟩
theorem zFk_s {fi0 fi fi' fo : Nat → Int32} {m k' : Int} {i k v : Int32} (h : zFk fi0 fi fo m k.toInt) (e : fi' = upd fi i.toNatClampNeg v) (ev : v = fo k.toNatClampNeg) (hi : i.toInt = 20 * m + k.toInt) (hm : 0 ≤ m) (hk : 0 ≤ k.toInt) (hk' : k' = k.toInt + 1) : zFk fi0 fi' fo m k' := by
  subst hk'
  have en : ∀ j : Int, 0 ≤ j → j ≠ 20 * m + k.toInt → zg fi' j = zg fi j := fun j j0 jn => by rw [e]; exact zg_ne (by omega) j0 (by omega)
  refine ⟨fun j j0 j1 => ?_, fun j j0 j1 => ?_⟩
  · by_cases q : j = k.toInt
    · rw [q, ← hi, e, zg_eq]; exact zg_at ev
    · rw [en _ (by omega) (by omega)]; exact h.1 j j0 (by omega)
  · rw [en j j0 (by omega)]; exact h.2 j j0 j1
theorem zFi_s {fi0 fi fo : Nat → Int32} {m k lg fr m' : Int} (h : zFi fi0 m lg) (hk : zFk fi0 fi fo m k) (hf : zFo fo fr lg 10) (h20 : 20 ≤ k) (hm : 0 ≤ m) (hfr : 0 ≤ fr) (hm' : m' = m + 1) : zFi fi m' lg := by
  subst hm'
  intro f f0 f1
  by_cases q : f = m
  · subst q
    have g : ∀ j : Int, 0 ≤ j → j < 20 → zg fi (20 * f + j) = zg fo j := fun j j0 j1 => hk.1 j j0 (by omega)
    refine ⟨fun a a0 a1 => ?_, ?_⟩
    · rw [Int.add_assoc, g (2 * a) (by omega) (by omega), g (2 * a + 1) (by omega) (by omega)]
      exact hf.1 a a0 a1
    · have z := hf.2 (by omega)
      have g0 := g 0 (by omega) (by omega)
      rw [Int.add_zero] at g0
      rw [g0, g 1 (by omega) (by omega)]; omega
  · obtain ⟨h1, h2⟩ := h f f0 (by omega)
    have g : ∀ j : Int, 0 ≤ j → j < 20 → zg fi (20 * f + j) = zg fi0 (20 * f + j) := fun j j0 j1 => hk.2 _ (by omega) (by omega)
    refine ⟨fun a a0 a1 => ?_, ?_⟩
    · have z := h1 a a0 a1
      rw [Int.add_assoc] at z ⊢
      rw [g (2 * a) (by omega) (by omega), g (2 * a + 1) (by omega) (by omega)]; exact z
    · have g0 := g 0 (by omega) (by omega)
      rw [Int.add_zero] at g0
      rw [g0, g 1 (by omega) (by omega)]; exact h2
theorem zFi_0f {fi : Nat → Int32} {n lg f : Int} {i x : Int32} (h : zFi fi n lg) (ex : x = fi i.toNatClampNeg) (hi : i.toInt = 20 * f) (f0 : 0 ≤ f) (f1 : f < n) (hl : lg ≤ 100) : 0 ≤ x.toInt ∧ x.toInt ≤ 100 := by
  have z := (h f f0 f1).2
  rw [zg_at2 ex hi]; omega
theorem zFi_1f {fi : Nat → Int32} {n lg f : Int} {i x : Int32} (h : zFi fi n lg) (ex : x = fi i.toNatClampNeg) (hi : i.toInt = 20 * f + 1) (f0 : 0 ≤ f) (f1 : f < n) (hl : lg ≤ 100) : 0 ≤ x.toInt ∧ x.toInt ≤ 100 := by
  have z := (h f f0 f1).2
  rw [zg_at2 ex hi]; omega
theorem zFi_a {fi : Nat → Int32} {n lg f a : Int} {i x : Int32} (h : zFi fi n lg) (ex : x = fi i.toNatClampNeg) (hi : i.toInt = 20 * f + 2 * a) (f0 : 0 ≤ f) (f1 : f < n) (a0 : 0 ≤ a) (a1 : a < 10) : -1 ≤ x.toInt ∧ x.toInt ≤ 100 := by
  have z := (h f f0 f1).1 a a0 a1
  rw [zg_at2 ex hi]; omega
theorem zFi_b {fi : Nat → Int32} {n lg f a : Int} {i x : Int32} (h : zFi fi n lg) (ex : x = fi i.toNatClampNeg) (hi : i.toInt = 20 * f + 2 * a + 1) (f0 : 0 ≤ f) (f1 : f < n) (a0 : 0 ≤ a) (a1 : a < 10) : -1 ≤ x.toInt ∧ x.toInt ≤ 100 := by
  have z := (h f f0 f1).1 a a0 a1
  rw [zg_at2 ex hi]; omega
def zbt (b s : Int32) : Prop := (b >>> (s &&& 31)) &&& 1 = 1
def zBt (b : Int32) (P : Int32 → Prop) (k : Int) : Prop := ∀ s : Int32, 0 ≤ s.toInt → s.toInt < k → zbt b s → P s
theorem zBt_0 {b : Int32} {P : Int32 → Prop} {k : Int} (h : k ≤ 0) : zBt b P k := fun s s0 s1 => by omega
theorem zBt_s {b k : Int32} {P : Int32 → Prop} {k' : Int} (h : zBt b P k.toInt) (hP : zbt b k → P k) (hk' : k' = k.toInt + 1) : zBt b P k' := by
  intro s s0 s1 sb
  by_cases q : s.toInt = k.toInt
  · have e := Int32.toInt_inj.mp q
    rw [e] at sb ⊢; exact hP sb
  · exact h s s0 (by omega) sb
theorem zbt_y {b s x y : Int32} (ex : x = b >>> (s &&& 31)) (ey : y = x &&& 1) (h : y.toInt = 1) : zbt b s := by
  subst ex; exact ey.symm.trans (Int32.toInt_inj.mp (by rw [h]; rfl))
theorem zbt_n {b s x y : Int32} (ex : x = b >>> (s &&& 31)) (ey : y = x &&& 1) (h : y.toInt ≠ 1) : ¬ zbt b s := by
  intro z; subst ex; apply h; rw [ey, show (b >>> (s &&& 31)) &&& 1 = 1 from z]; rfl
def zwk (t : Nat → Int32) : Nat → Int
  | 0 => 0
  | i + 1 => if zg t (zwk t i) = 36 then zwk t i + 2 else zwk t i + 1
def zRq (t : Nat → Int32) (n : Int) : Prop := ∀ i : Nat, zwk t i < n → zg t (zwk t i) = 36 → zwk t i + 1 < n
def zRh (t : Nat → Int32) (n p : Int) : Prop := ∃ i : Nat, zwk t i = p ∧ ∀ j : Nat, j < i → zwk t j < n → zg t (zwk t j) = 36 → zwk t j + 1 < n
def zRv (t : Nat → Int32) (p : Int) : Prop := ∃ i : Nat, zwk t i = p
theorem zwk_s {t : Nat → Int32} {i : Nat} : zwk t i + 1 ≤ zwk t (i + 1) := by
  have e : zwk t (i + 1) = if zg t (zwk t i) = 36 then zwk t i + 2 else zwk t i + 1 := rfl
  rw [e]; split <;> omega
theorem zwk_m {t : Nat → Int32} {i : Nat} : ∀ k : Nat, zwk t i ≤ zwk t (i + k) := by
  intro k; induction k with
  | zero => exact Int.le_refl _
  | succ k ih => have := @zwk_s t (i + k); rw [← Nat.add_assoc]; omega
theorem zRh_0 {t : Nat → Int32} {n p : Int} (h : p = 0) : zRh t n p := ⟨0, h.symm, fun j j0 => absurd j0 (Nat.not_lt_zero _)⟩
theorem zRh_1 {t : Nat → Int32} {n p' : Int} {p c : Int32} (h : zRh t n p.toInt) (ec : c = t p.toNatClampNeg) (hc : c.toInt ≠ 36) (hp : p' = p.toInt + 1) : zRh t n p' := by
  obtain ⟨i, e, h⟩ := h
  have g := zg_at ec
  refine ⟨i + 1, ?_, fun j j1 a b => ?_⟩
  · show (if zg t (zwk t i) = 36 then zwk t i + 2 else zwk t i + 1) = _; rw [e, if_neg (by omega)]; omega
  · by_cases q : j = i
    · subst q; rw [e] at b; omega
    · exact h j (by omega) a b
theorem zRh_2 {t : Nat → Int32} {n p' : Int} {p c : Int32} (h : zRh t n p.toInt) (ec : c = t p.toNatClampNeg) (hc : c.toInt = 36) (hn : p.toInt + 1 < n) (hp : p' = p.toInt + 2) : zRh t n p' := by
  obtain ⟨i, e, h⟩ := h
  have g := zg_at ec
  refine ⟨i + 1, ?_, fun j j1 a b => ?_⟩
  · show (if zg t (zwk t i) = 36 then zwk t i + 2 else zwk t i + 1) = _; rw [e, if_pos (by omega)]; omega
  · by_cases q : j = i
    · subst q; rw [e]; exact hn
    · exact h j (by omega) a b
theorem zRh_e {t : Nat → Int32} {n p : Int} (h : zRh t n p) (hp : n ≤ p) : zRq t n := by
  obtain ⟨i, e, h⟩ := h
  intro j a b
  by_cases q : j < i
  · exact h j q a b
  · have := @zwk_m t i (j - i)
    rw [show i + (j - i) = j by omega] at this; omega
theorem zRv_0 {t : Nat → Int32} {p : Int} (h : p = 0) : zRv t p := ⟨0, h.symm⟩
theorem zRv_1 {t : Nat → Int32} {p' : Int} {p c : Int32} (h : zRv t p.toInt) (ec : c = t p.toNatClampNeg) (hc : c.toInt ≠ 36) (hp : p' = p.toInt + 1) : zRv t p' := by
  obtain ⟨i, e⟩ := h
  have g := zg_at ec
  refine ⟨i + 1, ?_⟩
  show (if zg t (zwk t i) = 36 then zwk t i + 2 else zwk t i + 1) = _; rw [e, if_neg (by omega)]; omega
theorem zRv_2 {t : Nat → Int32} {p' : Int} {p c : Int32} (h : zRv t p.toInt) (ec : c = t p.toNatClampNeg) (hc : c.toInt = 36) (hp : p' = p.toInt + 2) : zRv t p' := by
  obtain ⟨i, e⟩ := h
  have g := zg_at ec
  refine ⟨i + 1, ?_⟩
  show (if zg t (zwk t i) = 36 then zwk t i + 2 else zwk t i + 1) = _; rw [e, if_pos (by omega)]; omega
theorem zRv_q {t : Nat → Int32} {n : Int} {p c : Int32} (h : zRv t p.toInt) (hq : zRq t n) (ec : c = t p.toNatClampNeg) (hc : c.toInt = 36) (hp : p.toInt < n) : p.toInt + 1 < n := by
  obtain ⟨i, e⟩ := h
  have g := zg_at ec
  have := hq i (by omega) (by rw [e]; omega)
  omega
theorem zGi_put {ig ig' : Bool} {it : Nat → Bool} {l0 l0' : Nat → Int32} {s k f st : Int} {p v : Int32} (h : zGi ig it l0 s k f st) (e : l0' = upd l0 p.toNatClampNeg v) (hp : 0 ≤ p.toInt) (hi : ig' = true → ig = true ∧ k ≠ p.toInt) : zGi ig' it l0' s k f st := by
  intro z
  obtain ⟨z1, z2⟩ := hi z
  obtain ⟨h1, h2, h3, h4⟩ := h z1
  refine ⟨h1, h2, ?_, h4⟩
  rw [e, zg_ne hp h2.1 z2]; exact h3
theorem zGi_drop {ig ig' : Bool} {it : Nat → Bool} {l0 : Nat → Int32} {s k f st : Int} (h : zGi ig it l0 s k f st) (hi : ig' = true → ig = true) : zGi ig' it l0 s k f st := fun z => h (hi z)
theorem zGi_go {ig ig' : Bool} {it it' : Nat → Bool} {l0 : Nat → Int32} {s k f st : Int} (h : zGi ig it l0 s k f st) (hg : zGo ig' it' s) (hi : (bz ig').toInt ≤ (bz ig).toInt) : zGi ig' it' l0 s k f st := by
  intro z
  have : ig = true := by
    cases ig
    · subst z; exact absurd hi (by decide)
    · rfl
  obtain ⟨h1, h2⟩ := h this
  exact ⟨⟨h1.1, hg z⟩, h2⟩
