theorem ct_X9_sheet  (I : WI) (L : WL) (a1 : Int32) (a2 : Int32) (a3 : Int32)  {v : (Int32 × WI)} (h : (F_X9_sheet I a1 a2 a3) = some v) : Ct x_X9_sheet 3 [.ref 33, .int a1, .int a2, .int a3] ly0 I L R0 0 0 (some (.int (p1 v)), ly0, (p2 v), L, R0) :=
  Ct_of_V mo_X9_sheet.1 (Nat.le_of_ble_eq_true rfl) (V_X9_sheet (P := fun x => x = v)  (fun _ e => by rw [e]) (by rw [h]; exact rfl))
def F_X9_lay_85 (I : WI) (a1 : Int32) (a2 : Int32) (a3 : Int32) (s0 : Int32) (s1 : Int32) : Option (Int32 × WI) :=
  (if s1 < 0 ∨ 160 ≤ Int32.toNatClampNeg s1 then none else some (1, (u2 I 44 (Int32.toNatClampNeg s1) s0)))
