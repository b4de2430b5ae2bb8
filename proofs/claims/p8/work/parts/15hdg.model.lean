theorem V_X9_sheet_47_1  {I : WI} {L : WL} {a1 : Int32} {a2 : Int32} {a3 : Int32} {a4 : Int32}  {P : WI → Prop} {t : Tg} (hk : ∀ x : WI, P x → V (zM x_X9_sheet 3 0 0 t) 40 [(0, .ref 33), (1, .int a1), (2, .int a2), (3, .int a3), (4, .int (a4 + 1))] [] ly0 x L R0 0 0) (kk : oP P (F_X9_sheet_47_1 I a1 a2 a3 a4)) : V (zM x_X9_sheet 3 0 0 t) 47 [(0, .ref 33), (1, .int a1), (2, .int a2), (3, .int a3), (4, .int a4)] [] ly0 I L R0 0 0 :=
  V_aload_n (tat ok_X9_sheet_0 (i := 28) (q := 48) rfl rfl) 0 rfl rfl <|
    V_getR (tat ok_X9_sheet_0 (i := 29) (q := 51) rfl rfl) fk_X9_41 rfl rfl <|
    V_bipush (tat ok_X9_sheet_0 (i := 30) (q := 53) rfl rfl) bp_40 <|
    V_iload_n (tat ok_X9_sheet_0 (i := 31) (q := 54) rfl rfl) 1 rfl rfl <|
    V_imul (tat ok_X9_sheet_0 (i := 32) (q := 55) rfl rfl) <|
    V_iload (tat ok_X9_sheet_0 (i := 33) (q := 57) rfl rfl) 4 rfl <|
    V_iadd (tat ok_X9_sheet_0 (i := 34) (q := 58) rfl rfl) <|
    V_iconst (tat ok_X9_sheet_0 (i := 35) (q := 59) rfl rfl) ic_0 <|
    (if c6 : ((40 * a1) + a4) < 0 ∨ 160 ≤ Int32.toNatClampNeg ((40 * a1) + a4) then ((jx (P := oP P) kk (if_pos c6))).elim else V_iast (tat ok_X9_sheet_0 (i := 36) (q := 60) rfl rfl) rfl c6 <|
    V_iinc (v := (a4 + 1)) (lv' := [(4, .int (a4 + 1)), (0, .ref 33), (1, .int a1), (2, .int a2), (3, .int a3)]) (tat ok_X9_sheet_0 (i := 37) (q := 63) rfl rfl) 4 rfl (ia ic_1) (Nat.le_of_ble_eq_true rfl) rfl <|
    V_goto (tat ok_X9_sheet_0 (i := 38) (q := 66) rfl rfl) rfl <|
    V_pick [1, 2, 3, 4, 0] rfl (hk (u2 I 44 (Int32.toNatClampNeg ((40 * a1) + a4)) 0) (jx (P := oP P) kk (if_neg c6))))
def F_X9_sheet_66 (I : WI) (a1 : Int32) (a2 : Int32) (a3 : Int32) : Option (Int32 × WI) :=
  some (1, I)
