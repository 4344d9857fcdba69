def zrJ (b n : Int) (pe rf rl cf cl : Int32) : Prop := (b ≤ n ∧ 0 ≤ n) ∧ (pe.toInt = -1 ∨ (b ≤ pe.toInt ∧ rl.toInt < pe.toInt ∧ cl.toInt < pe.toInt)) ∧ (rf.toInt = -1 ∨ (b ≤ rf.toInt ∧ cl.toInt < rf.toInt)) ∧ (cf.toInt = -1 ∨ b ≤ cf.toInt) ∧ pe.toInt < n ∧ rf.toInt < n ∧ rl.toInt < n ∧ cf.toInt < n ∧ cl.toInt < n
def zrK (b n : Int) (pe rl cl x : Int32) : Prop := x.toInt < n ∧ (x.toInt = -1 ∨ (b ≤ x.toInt ∧ pe.toInt < x.toInt ∧ rl.toInt < x.toInt ∧ cl.toInt < x.toInt))
theorem zrJ_w {b n n' : Int} {pe rf rl cf cl : Int32} (h : zrJ b n pe rf rl cf cl) (hn : n ≤ n') : zrJ b n' pe rf rl cf cl := by
  unfold zrJ at h ⊢; omega
theorem zrJ_0 {b n : Int} {pe rf rl cf cl : Int32} (hn : b ≤ n) (h0 : 0 ≤ n) (h1 : pe.toInt = -1) (h2 : rf.toInt = -1) (h3 : rl.toInt = -1) (h4 : cf.toInt = -1) (h5 : cl.toInt = -1) : zrJ b n pe rf rl cf cl := by
  unfold zrJ; omega
theorem zrK_n {b n n' : Int} {pe rf rl cf cl x : Int32} (h : zrJ b n pe rf rl cf cl) (hx : x.toInt = n) (hn : n < n') : zrK b n' pe rl cl x := by
  unfold zrJ at h; unfold zrK; omega
theorem zrK_u {b0 b n : Int} {pe rf rl cf cl x : Int32} (h : zrJ b0 b pe rf rl cf cl) (hx : x.toInt = -1 ∨ b ≤ x.toInt) (hn : x.toInt < n) : zrK b0 n pe rl cl x := by
  unfold zrJ at h; unfold zrK; omega
theorem zrJ_p {b n : Int} {pe rf rl cf cl peω rf' rl' : Int32} (h : zrJ b n pe rf rl cf cl) (h0 : pe.toInt ≠ -1) (hp : peω.toInt = -1) (hr : rl'.toInt = pe.toInt) (hf : rf'.toInt = rf.toInt ∨ rf'.toInt = pe.toInt) : zrJ b n peω rf' rl' cf cl := by
  unfold zrJ at h ⊢; omega
theorem zrJ_a {b n : Int} {pe rl cf cl pe1 rf1 rl1 x : Int32} (h : zrJ b n pe1 rf1 rl1 cf cl) (hk : zrK b n pe rl cl x) (hr : rl1.toInt = rl.toInt ∨ rl1.toInt = pe.toInt) : zrJ b n x rf1 rl1 cf cl := by
  unfold zrJ at h ⊢; unfold zrK at hk; omega
theorem zrJ_c {b n : Int} {pe rf rl cf cl peω rf' rl' cf' clω : Int32} (h : zrJ b n pe rf rl cf cl) (hx : clω.toInt = -1 ∨ b ≤ clω.toInt) (hn : clω.toInt < n) (h1 : peω.toInt = -1) (h2 : rf'.toInt = -1) (h3 : rl'.toInt = -1) (hf : cf'.toInt = cf.toInt ∨ cf'.toInt = clω.toInt) : zrJ b n peω rf' rl' cf' clω := by
  unfold zrJ at h ⊢; omega
theorem zrJ_l {b n n' : Int} {pe rf rl cf cl x : Int32} (h : zrJ b n pe rf rl cf cl) (hx : x.toInt = n) (hn : n < n') : zrJ b n' x rf rl cf cl := by
  unfold zrJ at h ⊢; omega
theorem zrJ_b {b n : Int} {pe rf rl cf cl : Int32} (h : zrJ b n pe rf rl cf cl) : b ≤ n := h.1.1
def zrX (d d' b0 b n : Int) (pe rf rl cf cl pb fb lb hb kb pa fa la ha ka : Int32) : Prop := (d' = d ∧ zrJ b n pe rf rl cf cl ∧ (1 ≤ d → zrJ b0 b pb fb lb hb kb)) ∨ (d' = d + 1 ∧ zrJ b n pe rf rl cf cl ∧ (1 ≤ d → zrJ b0 b pb fb lb hb kb) ∧ zrJ n n pa fa la ha ka) ∨ (d' = d - 1 ∧ zrJ b0 n pb fb lb hb kb)
def zrL (d n : Int) (gp gf gl gh gk : Nat → Int32) : Prop := ∃ bs : Nat → Int, ∀ k : Nat, (k : Int) ≤ d → zrJ (bs k) (if (k : Int) = d then n else bs (k + 1)) (gp k) (gf k) (gl k) (gh k) (gk k)
theorem zrL_0 {d n : Int} {gp gf gl gh gk : Nat → Int32} (hd : d = 0) (h0 : 0 ≤ n) (h1 : (gp 0).toInt = -1) (h2 : (gf 0).toInt = -1) (h3 : (gl 0).toInt = -1) (h4 : (gh 0).toInt = -1) (h5 : (gk 0).toInt = -1) : zrL d n gp gf gl gh gk := by
  refine ⟨fun _ => 0, fun k hk => ?_⟩
  have e : k = 0 := by omega
  subst e
  rw [if_pos (by omega)]
  exact zrJ_0 h0 h0 h1 h2 h3 h4 h5
theorem zrL_1 {d n : Int} {gp gf gl gh gk : Nat → Int32} {p f l h k : Int32} (hd : d = 0) (h0 : 0 ≤ n) (h1 : p.toInt = -1) (h2 : f.toInt = -1) (h3 : l.toInt = -1) (h4 : h.toInt = -1) (h5 : k.toInt = -1) : zrL d n (upd gp 0 p) (upd gf 0 f) (upd gl 0 l) (upd gh 0 h) (upd gk 0 k) := zrL_0 hd h0 h1 h2 h3 h4 h5
theorem zrL_g {d n : Int} {gp gf gl gh gk : Nat → Int32} (h : zrL d n gp gf gl gh gk) (c : Nat) (hd : d = c) : ∃ b b0 : Int, (zrJ b n (gp c) (gf c) (gl c) (gh c) (gk c) ∧ (1 ≤ d → zrJ b0 b (gp (c - 1)) (gf (c - 1)) (gl (c - 1)) (gh (c - 1)) (gk (c - 1)))) ∧ ∀ (d' n' : Int) (hp hf hl hh hk : Nat → Int32), (∀ k : Nat, k + 1 < c → hp k = gp k ∧ hf k = gf k ∧ hl k = gl k ∧ hh k = gh k ∧ hk k = gk k) → zrX d d' b0 b n' (hp c) (hf c) (hl c) (hh c) (hk c) (hp (c - 1)) (hf (c - 1)) (hl (c - 1)) (hh (c - 1)) (hk (c - 1)) (hp (c + 1)) (hf (c + 1)) (hl (c + 1)) (hh (c + 1)) (hk (c + 1)) → zrL d' n' hp hf hl hh hk := by
  obtain ⟨bs, hb⟩ := h
  have hc := hb c (by omega)
  rw [if_pos hd.symm] at hc
  refine ⟨bs c, bs (c - 1), ⟨hc, fun h1 => ?_⟩, ?_⟩
  · have hm := hb (c - 1) (by omega)
    rw [if_neg (by omega), show c - 1 + 1 = c by omega] at hm
    exact hm
  · intro d' n' hp hf hl hh hk he hx
    have old : ∀ k : Nat, k + 1 < c → zrJ (bs k) (bs (k + 1)) (hp k) (hf k) (hl k) (hh k) (hk k) := by
      intro k hkc
      have hm := hb k (by omega)
      rw [if_neg (by omega)] at hm
      obtain ⟨e1, e2, e3, e4, e5⟩ := he k hkc
      rw [e1, e2, e3, e4, e5]; exact hm
    rcases hx with ⟨e, j1, j2⟩ | ⟨e, j1, j2, j3⟩ | ⟨e, j1⟩
    · refine ⟨bs, fun k hk1 => ?_⟩
      by_cases q : (k : Int) = d'
      · have q2 : k = c := by omega
        subst q2; rw [if_pos q]; exact j1
      · rw [if_neg q]
        by_cases q3 : k + 1 = c
        · have q4 : k = c - 1 := by omega
          subst q4
          rw [show c - 1 + 1 = c by omega]; exact j2 (by omega)
        · exact old k (by omega)
    · refine ⟨fun k => if k = c + 1 then n' else bs k, fun k hk1 => ?_⟩
      by_cases q : (k : Int) = d'
      · have q2 : k = c + 1 := by omega
        subst q2; rw [if_pos q]
        show zrJ (if c + 1 = c + 1 then n' else bs (c + 1)) _ _ _ _ _ _
        rw [if_pos (rfl : c + 1 = c + 1)]
        exact j3
      · rw [if_neg q]
        by_cases q3 : k = c
        · subst q3
          show zrJ (if k = k + 1 then n' else bs k) (if k + 1 = k + 1 then n' else bs (k + 1)) _ _ _ _ _
          rw [if_pos (rfl : k + 1 = k + 1), if_neg (show ¬ k = k + 1 by omega)]; exact j1
        · show zrJ (if k = c + 1 then n' else bs k) (if k + 1 = c + 1 then n' else bs (k + 1)) _ _ _ _ _
          rw [if_neg (show ¬ k = c + 1 by omega), if_neg (show ¬ k + 1 = c + 1 by omega)]
          by_cases q5 : k + 1 = c
          · have q4 : k = c - 1 := by omega
            subst q4
            rw [show c - 1 + 1 = c by omega]; exact j2 (by omega)
          · exact old k (by omega)
    · refine ⟨bs, fun k hk1 => ?_⟩
      by_cases q : (k : Int) = d'
      · have q2 : k = c - 1 := by omega
        rw [if_pos q, q2]; exact j1
      · rw [if_neg q]; exact old k (by omega)
def zrLt (l : Nat → Int32) (c m : Int) : Prop := ∀ q : Nat, (q : Int) < c → -1 ≤ (l q).toInt ∧ (l q).toInt < m
theorem zrLt_0 {l : Nat → Int32} {c m : Int} (h : c ≤ 0) : zrLt l c m := fun q hq => by omega
theorem zrLt_g {l : Nat → Int32} {c m : Int} {i x : Int32} (h : zrLt l c m) (e : x = l i.toNatClampNeg) (h0 : 0 ≤ i.toInt) (h1 : i.toInt < c) : -1 ≤ x.toInt ∧ x.toInt < m := by
  subst e
  exact h _ (by have h9 := i_cl h0; omega)
theorem zrLt_m {l : Nat → Int32} {c m m' : Int} (h : zrLt l c m) (hm : m ≤ m') : zrLt l c m' := fun q hq => by
  have h9 := h q hq; omega
theorem zrLt_n {l lω : Nat → Int32} {c c' : Int} {i x : Int32} (h : zrLt l c c) (e : lω = upd l i.toNatClampNeg x) (h0 : 0 ≤ c) (hi : i.toInt = c) (hx : x.toInt = -1) (hc : c' = c + 1) : zrLt lω c' c := by
  intro q hq
  subst e
  have h9 := i_cl (x := i) (by omega)
  unfold upd
  by_cases z : q = i.toNatClampNeg
  · rw [if_pos z]; omega
  · rw [if_neg z]; exact h q (by omega)
theorem zrLt_s {l lω : Nat → Int32} {c m m' : Int} {i x : Int32} (h : zrLt l c m) (e : lω = upd l i.toNatClampNeg x) (hx : -1 ≤ x.toInt ∧ x.toInt < m') (hm : m ≤ m') : zrLt lω c m' := by
  intro q hq
  subst e
  unfold upd
  by_cases z : q = i.toNatClampNeg
  · rw [if_pos z]; exact hx
  · rw [if_neg z]
    have h9 := h q hq
    omega
def zrYs (e eω : Nat → Int32) (c : Int) : Prop := ∀ q : Nat, (q : Int) < c → eω q = e q
theorem zrYs_0 {e : Nat → Int32} {c : Int} : zrYs e e c := fun _ _ => rfl
theorem zrYs_t {e0 e eω : Nat → Int32} {c0 c : Int} (h1 : zrYs e0 e c0) (h2 : zrYs e eω c) (h : c0 ≤ c) : zrYs e0 eω c0 := fun q hq => (h2 q (by omega)).trans (h1 q hq)
theorem zrYg_j {e eω : Nat → Int32} {a c c' : Int} (h1 : rp (fun k v => k < v ∧ v ≤ 256) e a c) (h2 : rp (fun k v => k < v ∧ v ≤ 256) eω c c') (h3 : zrYs e eω c) : rp (fun k v => k < v ∧ v ≤ 256) eω a c' := by
  intro q ha hc
  by_cases z : (q : Int) < c
  · rw [h3 q z]; exact h1 q ha z
  · exact h2 q (by omega) hc
theorem zrYg_c {e eω : Nat → Int32} {c0 c : Int} {k x : Int32} (h : rp (fun k v => k < v ∧ v ≤ 256) e (c0 + 1) c) (hc : (k.toInt < 0 ∧ eω = e) ∨ (0 ≤ k.toInt ∧ eω = upd e k.toNatClampNeg x)) (hk : (0 ≤ k.toInt ∧ k.toInt = c0 ∧ c0 < c) ∨ (k.toInt < 0 ∧ c ≤ c0)) (hx : x.toInt = c) (hb : c ≤ 256) : rp (fun k v => k < v ∧ v ≤ 256) eω c0 c := by
  intro q ha hq
  rcases hc with ⟨h1, h2⟩ | ⟨h1, h2⟩
  · exfalso; omega
  · subst h2
    have h9 := i_cl h1
    unfold upd
    by_cases z : q = k.toNatClampNeg
    · rw [if_pos z]; exact ⟨by omega, by omega⟩
    · rw [if_neg z]; exact h q (by omega) hq
theorem zrYs_c {e0 e eω : Nat → Int32} {c0 : Int} {k x : Int32} (h : zrYs e0 e c0) (hc : (k.toInt < 0 ∧ eω = e) ∨ (0 ≤ k.toInt ∧ eω = upd e k.toNatClampNeg x)) (hk : k.toInt < 0 ∨ c0 ≤ k.toInt) : zrYs e0 eω c0 := by
  intro q hq
  rcases hc with ⟨h1, h2⟩ | ⟨h1, h2⟩
  · subst h2; exact h q hq
  · subst h2
    have h9 := i_cl h1
    show (if q = k.toNatClampNeg then x else e q) = _
    rw [if_neg (by omega)]; exact h q hq
theorem zrX_b {d d' b0 b n : Int} {pe rf rl cf cl pb fb lb hb kb pa fa la ha ka p2 f2 l2 h2 k2 : Int32} (h : zrX d d' b0 b n pe rf rl cf cl pb fb lb hb kb pa fa la ha ka) (hd : d = 0) (h0 : 0 ≤ d') : zrX d d' b0 b n pe rf rl cf cl p2 f2 l2 h2 k2 pa fa la ha ka := by
  rcases h with ⟨e, j1, j2⟩ | ⟨e, j1, j2, j3⟩ | ⟨e, j1⟩
  · exact Or.inl ⟨e, j1, fun z => absurd z (by omega)⟩
  · exact Or.inr (Or.inl ⟨e, j1, fun z => absurd z (by omega), j3⟩)
  · exfalso; omega
theorem zrX_a {d d' b0 b n : Int} {pe rf rl cf cl pb fb lb hb kb pa fa la ha ka p2 f2 l2 h2 k2 : Int32} (h : zrX d d' b0 b n pe rf rl cf cl pb fb lb hb kb pa fa la ha ka) (hd : d' ≤ d) : zrX d d' b0 b n pe rf rl cf cl pb fb lb hb kb p2 f2 l2 h2 k2 := by
  rcases h with ⟨e, j1, j2⟩ | ⟨e, j1, j2, j3⟩ | ⟨e, j1⟩
  · exact Or.inl ⟨e, j1, j2⟩
  · exfalso; omega
  · exact Or.inr (Or.inr ⟨e, j1⟩)
theorem zrX_g {d d' b0 b n : Int} {pe rf rl cf cl pb fb lb hb kb pa fa la ha ka : Int32} (h1 : zrJ b n pe rf rl cf cl) (h2 : 1 ≤ d → zrJ b0 b pb fb lb hb kb) (h3 : d' = d + 1 → 0 ≤ n → zrJ n n pa fa la ha ka) (h0 : 0 ≤ n) (hd : d ≤ d') (he : d' ≤ d + 1) : zrX d d' b0 b n pe rf rl cf cl pb fb lb hb kb pa fa la ha ka := by
  by_cases q : d' = d
  · exact Or.inl ⟨q, h1, h2⟩
  · exact Or.inr (Or.inl ⟨by omega, h1, h2, h3 (by omega) h0⟩)
theorem zrX_c {d d' b0 b n : Int} {pe rf rl cf cl pb fb lb hb kb pa fa la ha ka : Int32} (h : (d' = d ∧ zrJ b n pe rf rl cf cl ∧ (1 ≤ d → zrJ b0 b pb fb lb hb kb)) ∨ (d' = d - 1 ∧ zrJ b0 n pb fb lb hb kb)) : zrX d d' b0 b n pe rf rl cf cl pb fb lb hb kb pa fa la ha ka := by
  rcases h with h | h
  · exact Or.inl h
  · exact Or.inr (Or.inr h)
theorem zrU3 {g : Nat → Int32} {i j l k : Nat} {x y z : Int32} (h1 : k ≠ i) (h2 : k ≠ j) (h3 : k ≠ l) : upd (upd (upd g i x) j y) l z k = g k := by
  show (if k = l then z else if k = j then y else if k = i then x else g k) = g k
  rw [if_neg h3, if_neg h2, if_neg h1]
theorem zrU2 {g : Nat → Int32} {i j k : Nat} {x y : Int32} (h1 : k ≠ i) (h2 : k ≠ j) : upd (upd g i x) j y k = g k := by
  show (if k = j then y else if k = i then x else g k) = g k
  rw [if_neg h2, if_neg h1]
