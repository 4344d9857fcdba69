def zv (r : Int32) (h : Nat) : Value := if r = 0 then .null else .ref h
theorem zv_0 {r : Int32} {h : Nat} (e : r = 0) : zv r h = .null := if_pos e
theorem zv_1 {r : Int32} {h : Nat} (e : ¬ r = 0) : zv r h = .ref h := if_neg e
theorem zv_or (r : Int32) (h : Nat) : zv r h = .null ∨ ∃ a, zv r h = .ref a := by
  by_cases e : r = 0
  · exact Or.inl (zv_0 e)
  · exact Or.inr ⟨h, zv_1 e⟩
def va_Qn {S : Type} (h : Nat) (post : Int32 → S → Prop) (B : S → State → Prop) (A : Nat → Prop) : Array Value → State → Outcome → State → Prop := fun _ st oc t => (∃ (r : Int32) (u : S), oc = .returned (some (zv r h)) ∧ post r u ∧ B u t) ∧ va_F A st t
section QN
variable {p : Program} {l : Launch} {e : Env} {R : Room} {s : State} {m : MethodId} {args : Array Value} {below : List Frame} {meth : Method} {c : Code} {H : Heap} {locs : List Loc} {cells slots : Nat} {Q : State → Prop}
variable {pc : Nat} {ls : Array Slot} {rest st0 : List Value} {a : Array Value} {A0 A1 : Nat → Prop} {H0 : Heap} {mc ms : Nat} {free : Addr → Prop}
theorem va_calln {S : Type} {h : Nat} {post : Int32 → S → Prop} {B : S → State → Prop} (hr : va_Run p l e R s m args below meth c H locs cells slots mc ms (F0 m pc ls st0) rest (va_Qn h post B A1 a) free) (hS : va_S A0 H0 H locs) (hA : ∀ q, q < H.size → A1 q → A0 q) (hf : ∀ q, free q → A0 q)
    (kk : ∀ (r : Int32) (u : S) (t : State) (H1 : Heap) (locs1 : List Loc), t.heap = H1 → s.vm.Alike t.vm → post r u → B u t → H.size ≤ H1.size → (∀ q : Nat, q < H.size → ¬ A1 q → H1[q]? = H[q]?) → va_S A0 H0 H1 locs1 → W p l e R s m args below meth c H1 locs1 (cells + mc) (slots + ms) Q (F0 m (pc + 3) ls (zv r h :: rest))) : W p l e R s m args below meth c H locs cells slots Q (F0 m pc ls st0) := by
  intro T hT X
  obtain ⟨v, st₀, t, Tω, L, h0, X', hL, e1, e2, ⟨⟨r, u, hv, hp, hb⟩, hz, hk⟩, st⟩ := hr T hT X
  cases hv
  rw [h0] at hz hk
  obtain ⟨t2, a1, b1⟩ := kk r u t Tω.heap (locs ++ L) e1.symm (by rw [← e2]; exact X'.warmed.alike) hp hb (by rw [e1]; exact hz) (fun q h1 h2 => by rw [e1]; exact hk q h1 h2)
    ⟨Nat.le_trans hS.1 (by rw [e1]; exact hz), fun q h1 h2 => by rw [e1, hk q (Nat.lt_of_lt_of_le h1 hS.1) (fun z => h2 (hA q (Nat.lt_of_lt_of_le h1 hS.1) z))]; exact hS.2.1 q h1 h2, fun q hq => by
      rcases List.mem_append.mp hq with h | h
      · exact hS.2.2 q h
      · exact hf _ (hL q h)⟩ Tω rfl X'
  exact ⟨t2, st t2 a1, b1⟩
end QN
theorem va_kk {D : va_G} {cl : List vw_C} {tys : List (ClassId × FieldType)} {U : State} {k1 k2 : ClassId} (hK : va_K D cl tys U) (i j : Nat) (h1 : tys[i]? = some (k1, .int)) (h2 : tys[j]? = some (k2, .int)) : k1 = k2 := by
  have a : U.vm.findClass ("[" ++ (FieldType.int).toString) = some k1 := (hK.2 i _ h1).2
  have b : U.vm.findClass ("[" ++ (FieldType.int).toString) = some k2 := (hK.2 j _ h2).2
  exact Option.some.inj (a.symm.trans b)
