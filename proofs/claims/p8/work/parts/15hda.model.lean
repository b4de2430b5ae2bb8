theorem ct_X9_back  (I : WI) (L : WL) (a1 : Int32)  {v : (Int32 × WI × WL)} (h : (F_X9_back I L a1) = some v) : Ct x_X9_back 3 [.ref 33, .int a1] ly0 I L R0 0 0 (some (.int (p1 v)), ly0, (p1 (p2 v)), (p2 (p2 v)), R0) :=
  Ct_of_V mo_X9_back.1 (Nat.le_of_ble_eq_true rfl) (V_X9_back (P := fun x => x = v)  (fun _ e => by rw [e]) (by rw [h]; exact rfl))
def F_X9_isSheet_29 (a0 : Int32) (a1 : Int32) (s0 : Int32) : Int32 :=
  s0
