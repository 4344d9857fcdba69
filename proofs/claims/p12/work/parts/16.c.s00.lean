def w_X6_openGroup_31 (v_groups : Nat → Option Nat) (h2 : Nat) (Q : Int32 → Prop) (s0_31 : Int32) : Prop :=
  vp_in s0_31 10 ∧ v_groups s0_31.toNatClampNeg = some h2 ∧ Q 1
def w_X6_openGroup_30 (v_groups : Nat → Option Nat) (h2 : Nat) (Q : Int32 → Prop) : Prop :=
  w_X6_openGroup_31 v_groups h2 Q 0
def w_X6_openGroup (v_depth : Int32) (v_groups : Nat → Option Nat) (h2 : Nat) (Q : Int32 → Prop) : Prop :=
  ((v_depth < 0) → w_X6_openGroup_30 v_groups h2 Q) ∧ ((¬ v_depth < 0) → ((10 ≤ v_depth) → w_X6_openGroup_30 v_groups h2 Q) ∧ ((¬ 10 ≤ v_depth) → w_X6_openGroup_31 v_groups h2 Q v_depth))
def w_X6_addOne (p1 : Int32) (v_depth : Int32) (v_nextPart : Nat → Int32) (v_groups : Nat → Option Nat) (v_groups_c_pending : Int32) (v_groups_c_rowFirst : Int32) (v_groups_c_rowLast : Int32) (v_groups_c_rowCount : Int32) (h3 : Nat) (Q : (Nat → Int32) → Int32 → Bool → Int32 → Int32 → Int32 → Prop) : Prop :=
  w_X6_openGroup v_depth v_groups h3 (fun r_1 => ¬ r_1 = 0 ∧ w_X6_addPending v_nextPart v_groups_c_pending v_groups_c_rowFirst v_groups_c_rowLast v_groups_c_rowCount (fun r_3_0 r_3_1 r_3_2 r_3_3 r_3_4 => Q  r_3_0 p1 true r_3_2 r_3_3 r_3_4))
