theorem V_X9_read_21  {I : WI} {L : WL} {a1 : Int32} {a2 : Int32} {a3 : Int32} {a4 : Int32}  {P : (Int32 × WI × WL) → Prop} {t : Tg} (hr : ∀ v, P v → t = (some (.int (p1 v)), ly0, (p1 (p2 v)), (p2 (p2 v)), R0)) (kk : oP P (F_X9_read_21 I L a1 a2 a3 a4)) : V (zM x_X9_read 4 0 0 t) 21 [(0, .ref 33), (1, .int a1), (2, .int a2), (3, .int a3), (4, .int a4)] [] ly0 I L R0 0 0 :=
  V_iconst (tat ok_X9_read_0 (i := 10) (q := 22) rfl rfl) ic_m1 <|
    V_iret (tat ok_X9_read_0 (i := 11) (q := 23) rfl rfl) _ rfl (nar_int _) (hr ((-1), I, L) (jx (P := oP P) kk rfl)) ⟨(Nat.le_of_ble_eq_true rfl), (Nat.le_of_ble_eq_true rfl)⟩
def F_X9_read_126_2 (I : WI) (L : WL) (a1 : Int32) (a2 : Int32) (a3 : Int32) (a4 : Int32) (a6 : Int32) (a7 : Int32) (a8 : Int32) (s0 : Int32) : Option (Int32 ⊕ (Int32 × Int32)) :=
  some (.inr (s0, (a8 + 1)))
