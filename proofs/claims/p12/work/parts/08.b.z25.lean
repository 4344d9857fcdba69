theorem zcB_lt {f : Nat → Bool} {n : Nat} {i : Int32} (h0 : 0 ≤ i.toInt) (h1 : i.toInt < n) (hf : f i.toNatClampNeg = false) : zcB f n ≤ n - 1 := by
  have q := zcB_up (f := f) (f' := updB f i.toNatClampNeg true) (b := true) (n := n) rfl h0 h1
  have q1 : zb1 f i.toInt = 0 := by unfold zb1; rw [if_neg]; rw [show f i.toInt.toNat = false from hf]; decide
  have q2 : zb1 (updB f i.toNatClampNeg true) i.toInt = 1 := by unfold zb1; rw [if_pos]; exact zupdB_eq rfl
  have q3 : zcB (updB f i.toNatClampNeg true) n ≤ n := zsm_ub (fun k => (zb1_nn _ k).2)
  omega
theorem zcB_inc {f f' : Nat → Bool} {n : Nat} {i : Int32} {b : Bool} (e : f' = updB f i.toNatClampNeg b) (hb : b = true) (h0 : 0 ≤ i.toInt) (h1 : i.toInt < n) (hf : f i.toNatClampNeg = false) : zcB f' n = zcB f n + 1 := by
  have q := zcB_up (n := n) e h0 h1
  have q1 : zb1 f i.toInt = 0 := by unfold zb1; rw [if_neg]; rw [show f i.toInt.toNat = false from hf]; decide
  have q2 : zb1 f' i.toInt = 1 := by unfold zb1; rw [if_pos]; rw [zupdB_eq e]; exact hb
  omega
theorem zbzf_eq {f : Nat → Bool} {i j x : Int32} (ex : x = bz (f i.toNatClampNeg)) (hx : x.toInt = 0) (hj : j.toInt = i.toInt) : f j.toNatClampNeg = false := by
  have : j = i := Int32.toInt_inj.mp hj
  subst this; exact zbz_f ex hx
def zSo (sa sb cl : Nat → Int32) (m : Int) : Prop := ∀ c : Int, 0 ≤ c → c < m → (0 ≤ zg sa c ∧ zg sa c < zg cl 0) ∧ (0 ≤ zg sb c ∧ zg sb c < zg cl 1)
theorem zSo_0 {sa sb cl : Nat → Int32} : zSo sa sb cl (0 : Int32).toInt := fun c c0 c1 => by
  have e : (0 : Int32).toInt = 0 := rfl
  omega
theorem zSo_w {sa sb sa' sb' cl : Nat → Int32} {k x y : Int32} {m m' : Int} (h : zSo sa sb cl m) (e1 : sa' = upd sa k.toNatClampNeg x) (e2 : sb' = upd sb k.toNatClampNeg y) (hx : 0 ≤ x.toInt ∧ x.toInt < zg cl 0) (hy : 0 ≤ y.toInt ∧ y.toInt < zg cl 1) (hk : k.toInt = m) (h0 : 0 ≤ m) (hm : m' = m + 1) : zSo sa' sb' cl m' := by
  subst e1; subst e2; subst hm; subst hk
  intro c c0 c1
  by_cases q : c = k.toInt
  · subst q; rw [zg_eq, zg_eq]; exact ⟨hx, hy⟩
  · rw [zg_ne h0 c0 q, zg_ne h0 c0 q]; exact h c c0 (by omega)
def zNp (f : Nat → Bool) (k : Int) : Prop := zOff f k
theorem zNp_c {f : Nat → Bool} {n : Nat} (h : zOff f n) : zcB f n = 0 := by
  unfold zcB
  rw [zsm_congr (g := fun _ => 0) (fun k k0 k1 => by unfold zb1; rw [h k k0 k1]; rfl)]
  have : ∀ m : Nat, zsm (fun _ => 0) m = 0 := by
    intro m; induction m with
    | zero => rfl
    | succ m ih => show zsm _ m + 0 = 0; rw [ih]; rfl
  exact this n
theorem zSo_a {sa sb cl : Nat → Int32} {m : Int} {x i : Int32} (h : zSo sa sb cl m) (ex : x = sa i.toNatClampNeg) (h0 : 0 ≤ i.toInt) (h1 : i.toInt < m) : 0 ≤ x.toInt ∧ x.toInt < zg cl 0 := by
  rw [zg_at ex]; exact (h i.toInt h0 h1).1
theorem zSo_b {sa sb cl : Nat → Int32} {m : Int} {x i : Int32} (h : zSo sa sb cl m) (ex : x = sb i.toNatClampNeg) (h0 : 0 ≤ i.toInt) (h1 : i.toInt < m) : 0 ≤ x.toInt ∧ x.toInt < zg cl 1 := by
  rw [zg_at ex]; exact (h i.toInt h0 h1).2
def zPp (sa sb : Nat → Int32) (s0 s1 m : Int) : Prop := ∀ c : Int, 0 ≤ c → c < m → (0 ≤ zg sa c ∧ zg sa c < s0) ∧ (0 ≤ zg sb c ∧ zg sb c < s1)
theorem zPp_0 {sa sb : Nat → Int32} {s0 s1 : Int} : zPp sa sb s0 s1 (0 : Int32).toInt := fun c c0 c1 => by
  have e : (0 : Int32).toInt = 0 := rfl
  omega
theorem zPp_w {sa sb sa' sb' : Nat → Int32} {s0 s1 : Int} {k x y : Int32} {m' : Int} (h : zPp sa sb s0 s1 k.toInt) (e1 : sa' = upd sa k.toNatClampNeg x) (e2 : sb' = upd sb k.toNatClampNeg y) (hx : 0 ≤ x.toInt ∧ x.toInt < s0) (hy : 0 ≤ y.toInt ∧ y.toInt < s1) (h0 : 0 ≤ k.toInt) (hm : m' = k.toInt + 1) : zPp sa' sb' s0 s1 m' := by
  subst e1; subst e2; subst hm
  intro c c0 c1
  by_cases q : c = k.toInt
  · subst q; rw [zg_eq, zg_eq]; exact ⟨hx, hy⟩
  · rw [zg_ne h0 c0 q, zg_ne h0 c0 q]; exact h c c0 (by omega)
theorem zPp_a {sa sb : Nat → Int32} {s0 s1 m : Int} {x i : Int32} (h : zPp sa sb s0 s1 m) (ex : x = sa i.toNatClampNeg) (h0 : 0 ≤ i.toInt) (h1 : i.toInt < m) : 0 ≤ x.toInt ∧ x.toInt < s0 := by
  rw [zg_at ex]; exact (h i.toInt h0 h1).1
theorem zPp_b {sa sb : Nat → Int32} {s0 s1 m : Int} {x i : Int32} (h : zPp sa sb s0 s1 m) (ex : x = sb i.toNatClampNeg) (h0 : 0 ≤ i.toInt) (h1 : i.toInt < m) : 0 ≤ x.toInt ∧ x.toInt < s1 := by
  rw [zg_at ex]; exact (h i.toInt h0 h1).2
