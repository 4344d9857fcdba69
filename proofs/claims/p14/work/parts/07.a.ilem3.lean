def qp2 (P : Int → Int → Int → Prop) (g f : Nat → Int32) (lo hi : Int) : Prop := ∀ k : Nat, lo ≤ (k : Int) → (k : Int) < hi → P (k : Int) (g k).toInt (f k).toInt
theorem qp2_get {P : Int → Int → Int → Prop} {g f : Nat → Int32} {lo hi a : Int} {i : Int32} (h : qp2 P g f lo hi) (hiω : i.toInt = a) (h0 : 0 ≤ a) (h1 : lo ≤ a) (h2 : a < hi) : P a (g i.toNatClampNeg).toInt (f i.toNatClampNeg).toInt := by
  subst hiω
  have c := i_cl (x := i) h0
  have q := h i.toNatClampNeg (by omega) (by omega)
  rw [c] at q; exact q
theorem qp2_upd1 {P : Int → Int → Int → Prop} {g g' f : Nat → Int32} {lo hi a b : Int} {i v : Int32} (h : qp2 P g f lo hi) (e : g' = upd g i.toNatClampNeg v) (hiω : i.toInt = a) (hv : v.toInt = b) (h0 : 0 ≤ a) (hp : P a b (f i.toNatClampNeg).toInt) : qp2 P g' f lo hi := by
  subst hiω; subst e; subst hv
  intro k h1 h2
  have c := i_cl (x := i) h0
  unfold upd
  by_cases q : k = i.toNatClampNeg
  · rw [if_pos q, q, c]; exact hp
  · rw [if_neg q]; exact h k h1 h2
theorem qp2_upd2 {P : Int → Int → Int → Prop} {g f f' : Nat → Int32} {lo hi a b : Int} {i v : Int32} (h : qp2 P g f lo hi) (e : f' = upd f i.toNatClampNeg v) (hiω : i.toInt = a) (hv : v.toInt = b) (h0 : 0 ≤ a) (hp : P a (g i.toNatClampNeg).toInt b) : qp2 P g f' lo hi := by
  subst hiω; subst e; subst hv
  intro k h1 h2
  have c := i_cl (x := i) h0
  unfold upd
  by_cases q : k = i.toNatClampNeg
  · rw [if_pos q, q, c]; exact hp
  · rw [if_neg q]; exact h k h1 h2
theorem qp2_out1 {P : Int → Int → Int → Prop} {g g' f : Nat → Int32} {lo hi a : Int} {i v : Int32} (h : qp2 P g f lo hi) (e : g' = upd g i.toNatClampNeg v) (hiω : i.toInt = a) (h0 : 0 ≤ a) (ho : a + 1 ≤ lo ∨ hi ≤ a) : qp2 P g' f lo hi := by
  subst hiω; subst e
  intro k h1 h2
  have c := i_cl (x := i) h0
  unfold upd
  by_cases q : k = i.toNatClampNeg
  · exfalso; omega
  · rw [if_neg q]; exact h k h1 h2
theorem qp2_out2 {P : Int → Int → Int → Prop} {g f f' : Nat → Int32} {lo hi a : Int} {i v : Int32} (h : qp2 P g f lo hi) (e : f' = upd f i.toNatClampNeg v) (hiω : i.toInt = a) (h0 : 0 ≤ a) (ho : a + 1 ≤ lo ∨ hi ≤ a) : qp2 P g f' lo hi := by
  subst hiω; subst e
  intro k h1 h2
  have c := i_cl (x := i) h0
  unfold upd
  by_cases q : k = i.toNatClampNeg
  · exfalso; omega
  · rw [if_neg q]; exact h k h1 h2
theorem qp2_mono {P : Int → Int → Int → Prop} {g f : Nat → Int32} {lo hi loω hiω : Int} (h : qp2 P g f lo hi) (h1 : lo ≤ loω) (h2 : hiω ≤ hi) : qp2 P g f loω hiω := fun k q1 q2 => h k (by omega) (by omega)
theorem qp2_nil {P : Int → Int → Int → Prop} {g f : Nat → Int32} {lo hi : Int} (h : hi ≤ lo) : qp2 P g f lo hi := fun k q1 q2 => by exfalso; omega
theorem i_upd {g f : Nat → Int32} {i v : Int32} {b : Int} (e : g = upd f i.toNatClampNeg v) (hv : v.toInt = b) : (g i.toNatClampNeg).toInt = b := by
  subst e; subst hv
  unfold upd
  rw [if_pos rfl]
theorem qp2_hole1 {P : Int → Int → Int → Prop} {g g' f : Nat → Int32} {lo hi a : Int} {i v : Int32} (h : qp2 P g f lo hi) (e : g' = upd g i.toNatClampNeg v) (hiω : i.toInt = a) (h0 : 0 ≤ a) : qp2 (fun k m l => k = a ∨ P k m l) g' f lo hi := by
  subst hiω; subst e
  intro k h1 h2
  have c := i_cl (x := i) h0
  unfold upd
  by_cases q : k = i.toNatClampNeg
  · left; rw [q, c]
  · right; rw [if_neg q]; exact h k h1 h2
theorem qp2_hole2 {P : Int → Int → Int → Prop} {g f f' : Nat → Int32} {lo hi a : Int} {i v : Int32} (h : qp2 P g f lo hi) (e : f' = upd f i.toNatClampNeg v) (hiω : i.toInt = a) (h0 : 0 ≤ a) : qp2 (fun k m l => k = a ∨ P k m l) g f' lo hi := by
  subst hiω; subst e
  intro k h1 h2
  have c := i_cl (x := i) h0
  unfold upd
  by_cases q : k = i.toNatClampNeg
  · left; rw [q, c]
  · right; rw [if_neg q]; exact h k h1 h2
theorem qp2_hh1 {P : Int → Int → Int → Prop} {g g' f : Nat → Int32} {lo hi a : Int} {i v : Int32} (h : qp2 (fun k m l => k = a ∨ P k m l) g f lo hi) (e : g' = upd g i.toNatClampNeg v) (hiω : i.toInt = a) (h0 : 0 ≤ a) : qp2 (fun k m l => k = a ∨ P k m l) g' f lo hi := by
  subst hiω; subst e
  intro k h1 h2
  have c := i_cl (x := i) h0
  unfold upd
  by_cases q : k = i.toNatClampNeg
  · left; rw [q, c]
  · rw [if_neg q]; exact h k h1 h2
theorem qp2_hh2 {P : Int → Int → Int → Prop} {g f f' : Nat → Int32} {lo hi a : Int} {i v : Int32} (h : qp2 (fun k m l => k = a ∨ P k m l) g f lo hi) (e : f' = upd f i.toNatClampNeg v) (hiω : i.toInt = a) (h0 : 0 ≤ a) : qp2 (fun k m l => k = a ∨ P k m l) g f' lo hi := by
  subst hiω; subst e
  intro k h1 h2
  have c := i_cl (x := i) h0
  unfold upd
  by_cases q : k = i.toNatClampNeg
  · left; rw [q, c]
  · rw [if_neg q]; exact h k h1 h2
theorem qp2_fill {P : Int → Int → Int → Prop} {g f : Nat → Int32} {lo hi a : Int} {i : Int32} (h : qp2 (fun k m l => k = a ∨ P k m l) g f lo hi) (hiω : i.toInt = a) (h0 : 0 ≤ a) (hp : P a (g i.toNatClampNeg).toInt (f i.toNatClampNeg).toInt) : qp2 P g f lo hi := by
  subst hiω
  intro k h1 h2
  have c := i_cl (x := i) h0
  rcases h k h1 h2 with q | q
  · have e : k = i.toNatClampNeg := by omega
    rw [e, c]; exact hp
  · exact q
