def zJ (b n : Int) (pe rf rl cf cl : Int32) : Prop := b ≤ n ∧ (pe.toInt = -1 ∨ (b ≤ pe.toInt ∧ rl.toInt < pe.toInt ∧ cl.toInt < pe.toInt)) ∧ (rf.toInt = -1 ∨ (b ≤ rf.toInt ∧ cl.toInt < rf.toInt)) ∧ (cf.toInt = -1 ∨ b ≤ cf.toInt) ∧ pe.toInt < n ∧ rf.toInt < n ∧ rl.toInt < n ∧ cf.toInt < n ∧ cl.toInt < n
def zK (b n : Int) (pe rl cl x : Int32) : Prop := x.toInt < n ∧ (x.toInt = -1 ∨ (b ≤ x.toInt ∧ pe.toInt < x.toInt ∧ rl.toInt < x.toInt ∧ cl.toInt < x.toInt))
theorem zJ_w {b n n' : Int} {pe rf rl cf cl : Int32} (h : zJ b n pe rf rl cf cl) (hn : n ≤ n') : zJ b n' pe rf rl cf cl := by
  unfold zJ at h ⊢; omega
theorem zJ_0 {b n : Int} {pe rf rl cf cl : Int32} (hn : b ≤ n) (h0 : 0 ≤ n) (h1 : pe.toInt = -1) (h2 : rf.toInt = -1) (h3 : rl.toInt = -1) (h4 : cf.toInt = -1) (h5 : cl.toInt = -1) : zJ b n pe rf rl cf cl := by
  unfold zJ; omega
theorem zK_n {b n n' : Int} {pe rf rl cf cl x : Int32} (h : zJ b n pe rf rl cf cl) (hx : x.toInt = n) (hn : n < n') : zK b n' pe rl cl x := by
  unfold zJ at h; unfold zK; omega
theorem zK_u {b0 b n : Int} {pe rf rl cf cl x : Int32} (h : zJ b0 b pe rf rl cf cl) (hx : x.toInt = -1 ∨ b ≤ x.toInt) (hn : x.toInt < n) : zK b0 n pe rl cl x := by
  unfold zJ at h; unfold zK; omega
theorem zJ_p {b n : Int} {pe rf rl cf cl pe' rf' rl' : Int32} (h : zJ b n pe rf rl cf cl) (h0 : pe.toInt ≠ -1) (hp : pe'.toInt = -1) (hr : rl'.toInt = pe.toInt) (hf : rf'.toInt = rf.toInt ∨ rf'.toInt = pe.toInt) : zJ b n pe' rf' rl' cf cl := by
  unfold zJ at h ⊢; omega
theorem zJ_a {b n : Int} {pe rf rl cf cl pe1 rf1 rl1 x : Int32} (h : zJ b n pe1 rf1 rl1 cf cl) (hk : zK b n pe rl cl x) (hr : rl1.toInt = rl.toInt ∨ rl1.toInt = pe.toInt) : zJ b n x rf1 rl1 cf cl := by
  unfold zJ at h ⊢; unfold zK at hk; omega
theorem zJ_c {b n : Int} {pe rf rl cf cl pe' rf' rl' cf' cl' : Int32} (h : zJ b n pe rf rl cf cl) (hx : cl'.toInt = -1 ∨ b ≤ cl'.toInt) (hn : cl'.toInt < n) (h1 : pe'.toInt = -1) (h2 : rf'.toInt = -1) (h3 : rl'.toInt = -1) (hf : cf'.toInt = cf.toInt ∨ cf'.toInt = cl'.toInt) : zJ b n pe' rf' rl' cf' cl' := by
  unfold zJ at h ⊢; omega
theorem zJ_l {b n n' : Int} {pe rf rl cf cl x : Int32} (h : zJ b n pe rf rl cf cl) (hx : x.toInt = n) (hn : n < n') : zJ b n' x rf rl cf cl := by
  unfold zJ at h ⊢; omega
theorem zJ_b {b n : Int} {pe rf rl cf cl : Int32} (h : zJ b n pe rf rl cf cl) : b ≤ n := h.1
def zX (d d' b0 b n : Int) (pe rf rl cf cl pb fb lb hb kb pa fa la ha ka : Int32) : Prop := (d' = d ∧ zJ b n pe rf rl cf cl ∧ (1 ≤ d → zJ b0 b pb fb lb hb kb)) ∨ (d' = d + 1 ∧ zJ b n pe rf rl cf cl ∧ (1 ≤ d → zJ b0 b pb fb lb hb kb) ∧ zJ n n pa fa la ha ka) ∨ (d' = d - 1 ∧ zJ b0 n pb fb lb hb kb)
def zL (d n : Int) (gp gf gl gh gk : Nat → Int32) : Prop := ∃ bs : Nat → Int, ∀ k : Nat, (k : Int) ≤ d → zJ (bs k) (if (k : Int) = d then n else bs (k + 1)) (gp k) (gf k) (gl k) (gh k) (gk k)
theorem zL_0 {d n : Int} {gp gf gl gh gk : Nat → Int32} (hd : d = 0) (h0 : 0 ≤ n) (h1 : (gp 0).toInt = -1) (h2 : (gf 0).toInt = -1) (h3 : (gl 0).toInt = -1) (h4 : (gh 0).toInt = -1) (h5 : (gk 0).toInt = -1) : zL d n gp gf gl gh gk := by
  refine ⟨fun _ => 0, fun k hk => ?_⟩
  have e : k = 0 := by omega
  subst e
  rw [if_pos (by omega)]
  exact zJ_0 h0 h0 h1 h2 h3 h4 h5
theorem zL_g {d n : Int} {gp gf gl gh gk : Nat → Int32} (h : zL d n gp gf gl gh gk) (c : Nat) (hd : d = c) : ∃ b b0 : Int, (zJ b n (gp c) (gf c) (gl c) (gh c) (gk c) ∧ (1 ≤ d → zJ b0 b (gp (c - 1)) (gf (c - 1)) (gl (c - 1)) (gh (c - 1)) (gk (c - 1)))) ∧ ∀ (d' n' : Int) (hp hf hl hh hk : Nat → Int32), (∀ k : Nat, k + 1 < c → hp k = gp k ∧ hf k = gf k ∧ hl k = gl k ∧ hh k = gh k ∧ hk k = gk k) → zX d d' b0 b n' (hp c) (hf c) (hl c) (hh c) (hk c) (hp (c - 1)) (hf (c - 1)) (hl (c - 1)) (hh (c - 1)) (hk (c - 1)) (hp (c + 1)) (hf (c + 1)) (hl (c + 1)) (hh (c + 1)) (hk (c + 1)) → zL d' n' hp hf hl hh hk := by
  obtain ⟨bs, hb⟩ := h
  have hc := hb c (by omega)
  rw [if_pos hd.symm] at hc
  refine ⟨bs c, bs (c - 1), ⟨hc, fun h1 => ?_⟩, ?_⟩
  · have hm := hb (c - 1) (by omega)
    rw [if_neg (by omega), show c - 1 + 1 = c by omega] at hm
    exact hm
  · intro d' n' hp hf hl hh hk he hx
    have old : ∀ k : Nat, k + 1 < c → zJ (bs k) (bs (k + 1)) (hp k) (hf k) (hl k) (hh k) (hk k) := by
      intro k hkc
      have hm := hb k (by omega)
      rw [if_neg (by omega)] at hm
      obtain ⟨e1, e2, e3, e4, e5⟩ := he k hkc
      rw [e1, e2, e3, e4, e5]; exact hm
    rcases hx with ⟨e, j1, j2⟩ | ⟨e, j1, j2, j3⟩ | ⟨e, j1⟩
    · refine ⟨bs, fun k hk1 => ?_⟩
      by_cases q : (k : Int) = d'
      · have q2 : k = c := by omega
        subst q2; rw [if_pos q]; exact j1
      · rw [if_neg q]
        by_cases q3 : k + 1 = c
        · have q4 : k = c - 1 := by omega
          subst q4
          rw [show c - 1 + 1 = c by omega]; exact j2 (by omega)
        · exact old k (by omega)
    · refine ⟨fun k => if k = c + 1 then n' else bs k, fun k hk1 => ?_⟩
      by_cases q : (k : Int) = d'
      · have q2 : k = c + 1 := by omega
        subst q2; rw [if_pos q]
        show zJ (if c + 1 = c + 1 then n' else bs (c + 1)) _ _ _ _ _ _
        rw [if_pos (rfl : c + 1 = c + 1)]
        exact j3
      · rw [if_neg q]
        by_cases q3 : k = c
        · subst q3
          show zJ (if k = k + 1 then n' else bs k) (if k + 1 = k + 1 then n' else bs (k + 1)) _ _ _ _ _
          rw [if_pos (rfl : k + 1 = k + 1), if_neg (show ¬ k = k + 1 by omega)]; exact j1
        · show zJ (if k = c + 1 then n' else bs k) (if k + 1 = c + 1 then n' else bs (k + 1)) _ _ _ _ _
          rw [if_neg (show ¬ k = c + 1 by omega), if_neg (show ¬ k + 1 = c + 1 by omega)]
          by_cases q5 : k + 1 = c
          · have q4 : k = c - 1 := by omega
            subst q4
            rw [show c - 1 + 1 = c by omega]; exact j2 (by omega)
          · exact old k (by omega)
    · refine ⟨bs, fun k hk1 => ?_⟩
      by_cases q : (k : Int) = d'
      · have q2 : k = c - 1 := by omega
        rw [if_pos q, q2]; exact j1
      · rw [if_neg q]; exact old k (by omega)
