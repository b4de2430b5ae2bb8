theorem ct_X9_isSheet  (I : WI) (L : WL) (a0 : Int32) (a1 : Int32)  : Ct x_X9_isSheet 2 [.int a0, .int a1] ly0 I L R0 0 0 (some (.int (F_X9_isSheet a0 a1)), ly0, I, L, R0) :=
  Ct_of_V mo_X9_isSheet.1 (Nat.le_of_ble_eq_true rfl) (V_X9_isSheet (P := fun x => x = (F_X9_isSheet a0 a1))  (fun _ e => by rw [e]) rfl)
def F_X9_sheet_14 (I : WI) (a1 : Int32) (a2 : Int32) (a3 : Int32) : Option (Int32 × WI) :=
  some ((-1), I)
