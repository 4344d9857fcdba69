def w_X6_exchange (Q : Int32 → Prop) : Prop :=
  Q 1
