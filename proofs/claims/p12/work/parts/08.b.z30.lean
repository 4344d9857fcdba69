def zLoose (r : Int) : Prop := (0 ≤ r ∧ r < 20) ∨ (30 ≤ r ∧ r < 470) ∨ 910 ≤ r
def zCx : List (Int × Int) → Prop
  | [] => True
  | (k, a) :: G => (k = 0 → 1 ≤ a ∧ a ≤ 9) ∧ (k ≠ 0 → 0 ≤ a ∧ a < 220) ∧ zCx G
theorem zCx_free {r : Int} (h : zLoose r) : ∀ {G : List (Int × Int)}, zCx G → zFree r G := by
  intro G; induction G with
  | nil => intro _; trivial
  | cons x G ih =>
    obtain ⟨k, a⟩ := x
    intro hc
    obtain ⟨c1, c2, c3⟩ := hc
    refine ⟨fun e => ?_, fun e => ?_, ih c3⟩
    · have := c1 e; unfold zLoose at h; omega
    · have := c2 e; unfold zLoose at h; omega
theorem zWf_loose {fr lg r v p c : Int} {f : Int → Int} {G : List (Int × Int)} (h : zLoose r) (hc : zCx G) (hw : zWf fr lg f G p c) : zWf fr lg (zfs f r v) G p c := zWf_set (zCx_free h hc) hw
theorem zCs_st {P : Int → Int → Int → (Int → Int) → Int → Int → Prop} {w : Int → Int → Int} {rg to tl rg' to' tl' cs ca cp ct : Nat → Int32} {t t' m S : Int} {r v : Int32} (h : zCs P w to tl cs ca cp ct t m (zG rg) S) (hs : zST rg to tl rg' to' tl' t t' r v) (h0 : 0 ≤ t) (hr : 0 ≤ r.toInt) : zCs P w to' tl' cs ca cp ct t' m (zG rg') S ∧ zG rg' = zfs (zG rg) r.toInt v.toInt := by
  rcases hs with ⟨e1, e2, e3, e4, e5⟩ | ⟨e1, e2, e3, e4, e5, e6⟩
  · subst e1; subst e2; subst e3; subst e4
    refine ⟨h, ?_⟩
    funext j; unfold zfs
    by_cases q : j = r.toInt
    · rw [if_pos q, q, zG_at hr]; exact e5
    · rw [if_neg q]
  · subst e1; subst e3
    rw [zG_upd hr]
    exact ⟨zCs_set h h0 e4 (by rw [e5, zG_at hr]) e6, rfl⟩
theorem zCs_ch {P : Int → Int → Int → (Int → Int) → Int → Int → Prop} {w : Int → Int → Int} {to tl cs ca cp ct cs' ca' cp' ct' : Nat → Int32} {f : Int → Int} {t m s a p : Int32} {m' S : Int} (h : zCs P w to tl cs ca cp ct t.toInt m.toInt f S) (e1 : cs' = upd cs m.toNatClampNeg s) (e2 : ca' = upd ca m.toNatClampNeg a) (e3 : cp' = upd cp m.toNatClampNeg p) (e4 : ct' = upd ct m.toNatClampNeg t) (h0 : 0 ≤ t.toInt) (hm : 0 ≤ m.toInt) (hP : P s.toInt a.toInt p.toInt f m.toInt t.toInt) (hm' : m' = m.toInt + 1) : zCs P w to tl cs' ca' cp' ct' t.toInt m' f (S + w s.toInt a.toInt) := by
  subst e1; subst e2; subst e3; subst e4; subst hm'
  have q := zCs_choose (cs' := upd cs m.toNatClampNeg s) (ca' := upd ca m.toNatClampNeg a) (cp' := upd cp m.toNatClampNeg p) (ct' := upd ct m.toNatClampNeg t) h h0 hm (fun j j0 j1 => ⟨zg_ne hm j0 j1, zg_ne hm j0 j1, zg_ne hm j0 j1, zg_ne hm j0 j1⟩) zg_eq (by rw [zg_eq, zg_eq, zg_eq]; exact hP)
  rw [zg_eq, zg_eq] at q
  exact q
def zBT (P : Int → Int → Int → (Int → Int) → Int → Int → Prop) (w : Int → Int → Int) (rg to tl rg' to' tl' cs ca cp ct : Nat → Int32) (t t' m k n n' p S : Int) (o : Bool) : Prop := o = true ∨ (o = false ∧ n' = n + 1 ∧ t ≤ t' ∧ t' ≤ t + 2 ∧ zCs P w to' tl' cs ca cp ct t' m (zG rg') S ∧ ∃ v : Int, zG rg' = zfs (zfs (zG rg) (30 + k) v) (250 + k) p)
theorem zBT_y {P : Int → Int → Int → (Int → Int) → Int → Int → Prop} {w : Int → Int → Int} {rg to tl rg1 to1 tl1 rg2 to2 tl2 cs ca cp ct : Nat → Int32} {t t1 t2 m k n n' S : Int} {o : Bool} {r1 v1 r2 v2 : Int32} (h : zCs P w to tl cs ca cp ct t m (zG rg) S) (s1 : zST rg to tl rg1 to1 tl1 t t1 r1 v1) (s2 : zST rg1 to1 tl1 rg2 to2 tl2 t1 t2 r2 v2) (ho : o = false) (h0 : 0 ≤ t) (h1 : 0 ≤ t1) (e1 : r1.toInt = 30 + k) (e2 : r2.toInt = 250 + k) (hk : 0 ≤ k) (hn : n' = n + 1) (g1 : t ≤ t2) (g2 : t2 ≤ t + 2) : zBT P w rg to tl rg2 to2 tl2 cs ca cp ct t t2 m k n n' v2.toInt S o := by
  obtain ⟨a, b⟩ := zCs_st h s1 h0 (by omega)
  obtain ⟨c, d⟩ := zCs_st a s2 h1 (by omega)
  exact Or.inr ⟨ho, hn, g1, g2, c, v1.toInt, by rw [d, b, e1, e2]⟩
theorem zbz0 {b : Bool} (h : (bz b).toInt = 0) : b = false := by
  cases b with
  | false => rfl
  | true => exact absurd h (by decide)
