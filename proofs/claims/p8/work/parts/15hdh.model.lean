theorem V_X9_sheet_66  {I : WI} {L : WL} {a1 : Int32} {a2 : Int32} {a3 : Int32}  {P : (Int32 × WI) → Prop} {t : Tg} (hr : ∀ v, P v → t = (some (.int (p1 v)), ly0, (p2 v), L, R0)) (kk : oP P (F_X9_sheet_66 I a1 a2 a3)) : V (zM x_X9_sheet 3 0 0 t) 66 [(0, .ref 33), (1, .int a1), (2, .int a2), (3, .int a3)] [] ly0 I L R0 0 0 :=
  V_iconst (tat ok_X9_sheet_0 (i := 39) (q := 67) rfl rfl) ic_1 <|
    V_iret (tat ok_X9_sheet_1 (i := 0) (q := 68) rfl rfl) _ rfl (nar_int _) (hr (1, I) (jx (P := oP P) kk rfl)) ⟨(Nat.le_of_ble_eq_true rfl), (Nat.le_of_ble_eq_true rfl)⟩
def F_X9_sheet_40 (I : WI) (a1 : Int32) (a2 : Int32) (a3 : Int32) (a4 : Int32) : Option (Int32 × WI) :=
  (frp0 (fun i x => (F_X9_sheet_47_1 x a1 a2 a3 i)) 40 (fu a4 40) a4 I).bind (fun q => (F_X9_sheet_66 (p2 q) a1 a2 a3))
