def w_X1_undo_v1_84 (Q : Int32 → (Nat → Int32) → Prop) (v_trailCount_84 : Int32) (v_cells_84 : Nat → Int32) : Prop :=
  Q  v_trailCount_84 v_cells_84
def w_X1_undo_v1_81 (Q : Int32 → (Nat → Int32) → Prop) (K0 : Int32 → (Nat → Int32) → Prop) (v_trailCount_81 : Int32) (v_cells_81 : Nat → Int32) : Prop :=
  K0 v_trailCount_81 v_cells_81
def w_X1_undo_v1_0B (p1 : Int32) (v_trail : Nat → Int32) (nv_trail : Nat) (Q : Int32 → (Nat → Int32) → Prop) (K0 : Int32 → (Nat → Int32) → Prop) (v_trailCount_0 : Int32) (v_cells_0 : Nat → Int32) : Prop :=
  ((v_trailCount_0 ≤ p1) → w_X1_undo_v1_84 Q v_trailCount_0 v_cells_0) ∧ ((¬ v_trailCount_0 ≤ p1) → ((v_trailCount_0 ≤ 0) → w_X1_undo_v1_84 Q v_trailCount_0 v_cells_0) ∧ ((¬ v_trailCount_0 ≤ 0) → ∀ x_3 : Int32, x_3 = Int32.ofNat nv_trail → ((x_3 < v_trailCount_0) → w_X1_undo_v1_84 Q v_trailCount_0 v_cells_0) ∧ ((¬ x_3 < v_trailCount_0) → ∀ x_5 : Int32, x_5 = v_trailCount_0 - (1 : Int32) → vp_in x_5 nv_trail ∧ ∀ x_8 : Int32, x_8 = v_trail x_5.toNatClampNeg → ∀ x_9 : Int32, x_9 = x_8 / (65536 : Int32) → ((x_9 < 0) → w_X1_undo_v1_81 Q K0 x_5 v_cells_0) ∧ ((¬ x_9 < 0) → ((266 ≤ x_9) → w_X1_undo_v1_81 Q K0 x_5 v_cells_0) ∧ ((¬ 266 ≤ x_9) → vp_in x_5 nv_trail ∧ ∀ x_15 : Int32, x_15 = v_trail x_5.toNatClampNeg → ∀ x_16 : Int32, x_16 = x_15 - x_15 / (65536 : Int32) * (65536 : Int32) → vp_in x_9 266 ∧ ∀ g_17 : Nat → Int32, g_17 = upd v_cells_0 x_9.toNatClampNeg x_16 → w_X1_undo_v1_81 Q K0 x_5 g_17)))))
def w_X1_undo_v1_0 (p1 : Int32) (v_trail : Nat → Int32) (nv_trail : Nat) (Q : Int32 → (Nat → Int32) → Prop) : Nat → Int32 → (Nat → Int32) → Prop
  | 0, _, _ => False
  | n9 + 1, v_trailCount_0, v_cells_0 => w_X1_undo_v1_0B p1 v_trail nv_trail Q (w_X1_undo_v1_0 p1 v_trail nv_trail Q n9) v_trailCount_0 v_cells_0
def w_X1_undo_v1 (p1 : Int32) (v_trailCount : Int32) (v_cells : Nat → Int32) (v_trail : Nat → Int32) (nv_trail : Nat) (Q : Int32 → (Nat → Int32) → Prop) : Prop :=
  ∃ k9 : Nat, w_X1_undo_v1_0 p1 v_trail nv_trail Q k9 v_trailCount v_cells
