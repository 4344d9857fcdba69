theorem ok_X11_out {p1 : Int32} {v_outRow_count : Int32} {v_outRow_items : Nat → Int32} {nv_outRow_items : Nat} {Q : Int32 → Int32 → Prop} (a0 : 0 ≤ v_outRow_count.toInt) (a1 : v_outRow_count.toInt ≤ (nv_outRow_items : Int)) (a2 : (nv_outRow_items : Int) ≤ 1000) (hq : ∀ c r : Int32, Q c r) : w_X11_out p1 v_outRow_count v_outRow_items nv_outRow_items Q := by
  unfold w_X11_out w_X11_out_15
  exact ⟨fun _ => hq _ _, fun _ => ⟨fun _ => ok_X7_at a0 a1 a2 (fun r _ => hq _ _), fun _ => hq _ _⟩⟩
theorem ok_X11_sign {p1 p2 : Int32} {v_subjects : Nat → Option Nat} {v_subjects_p1_count : Int32} {v_subjects_p1_there : Bool} {v_subjects_p1_items : Nat → Int32} {nv_subjects_p1_items : Nat} {h2 : Nat} {Q : Int32 → Int32 → Prop} (a0 : 0 ≤ v_subjects_p1_count.toInt) (a1 : v_subjects_p1_count.toInt ≤ (nv_subjects_p1_items : Int)) (a2 : (nv_subjects_p1_items : Int) ≤ 1000) (v0 : 0 ≤ p1.toInt → p1.toInt < 4 → v_subjects p1.toNatClampNeg = some h2) (hq : ∀ c r : Int32, Q c r) : w_X11_sign p1 p2 v_subjects v_subjects_p1_count v_subjects_p1_there v_subjects_p1_items nv_subjects_p1_items h2 Q := by
  unfold w_X11_sign w_X11_sign_49
  refine ok_X11_isSubject (fun r f1 f2 f3 f4 f5 f6 => ⟨fun c => ?_, fun _ => hq _ _⟩)
  have g : r.toInt ≠ 0 := i_ne (a := r.toInt) (b := 0) rfl rfl c
  refine ⟨i_in (by omega) (by omega), v0 (by omega) (by omega), fun _ => ⟨fun _ => hq _ _, fun _ => ⟨fun _ => ?_, fun _ => hq _ _⟩⟩, fun _ => hq _ _⟩
  exact ok_X7_at a0 a1 a2 (fun r _ x e => ⟨zchr e, hq _ _⟩)
