theorem V_X9_sheet_14  {I : WI} {L : WL} {a1 : Int32} {a2 : Int32} {a3 : Int32}  {P : (Int32 × WI) → Prop} {t : Tg} (hr : ∀ v, P v → t = (some (.int (p1 v)), ly0, (p2 v), L, R0)) (kk : oP P (F_X9_sheet_14 I a1 a2 a3)) : V (zM x_X9_sheet 3 0 0 t) 14 [(0, .ref 33), (1, .int a1), (2, .int a2), (3, .int a3)] [] ly0 I L R0 0 0 :=
  V_iconst (tat ok_X9_sheet_0 (i := 7) (q := 15) rfl rfl) ic_m1 <|
    V_iret (tat ok_X9_sheet_0 (i := 8) (q := 16) rfl rfl) _ rfl (nar_int _) (hr ((-1), I) (jx (P := oP P) kk rfl)) ⟨(Nat.le_of_ble_eq_true rfl), (Nat.le_of_ble_eq_true rfl)⟩
def F_X9_sheet_47_1 (I : WI) (a1 : Int32) (a2 : Int32) (a3 : Int32) (a4 : Int32) : Option WI :=
  (if ((40 * a1) + a4) < 0 ∨ 160 ≤ Int32.toNatClampNeg ((40 * a1) + a4) then none else some (u2 I 44 (Int32.toNatClampNeg ((40 * a1) + a4)) 0))
