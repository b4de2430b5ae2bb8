theorem V_X9_sheet  {I : WI} {L : WL} {a1 : Int32} {a2 : Int32} {a3 : Int32}  {P : (Int32 × WI) → Prop} {t : Tg} (hr : ∀ v, P v → t = (some (.int (p1 v)), ly0, (p2 v), L, R0)) (kk : oP P (F_X9_sheet I a1 a2 a3)) : V (zM x_X9_sheet 3 0 0 t) 0 [(0, .ref 33), (1, .int a1), (2, .int a2), (3, .int a3)] [] ly0 I L R0 0 0 :=
  V_iload_n (tat ok_X9_sheet_0 (i := 0) (q := 1) rfl rfl) 1 rfl rfl <|
    V_iload_n (tat ok_X9_sheet_0 (i := 1) (q := 2) rfl rfl) 2 rfl rfl <|
    V_cs2 (ct_X9_isSheet I L a1 a2 ) mo_X9_isSheet (tat ok_X9_sheet_0 (i := 2) (q := 5) rfl rfl) ml_X9_333 ⟨(Nat.le_of_ble_eq_true rfl), (Nat.le_of_ble_eq_true rfl)⟩ ⟨(Nat.le_of_ble_eq_true rfl), (Nat.le_of_ble_eq_true rfl)⟩ (Nat.le_of_ble_eq_true rfl) <|
    V_if_eq (tat ok_X9_sheet_0 (i := 3) (q := 8) rfl rfl) rfl (fun c1 => V_X9_sheet_14  hr (jx (P := oP P) kk (if_pos c1))) (fun c1 => V_iload_n (tat ok_X9_sheet_0 (i := 4) (q := 9) rfl rfl) 3 rfl rfl <|
    V_bipush (tat ok_X9_sheet_0 (i := 5) (q := 11) rfl rfl) bp_40 <|
    V_icmp_le (tat ok_X9_sheet_0 (i := 6) (q := 14) rfl rfl) rfl (fun c2 => V_iload_n (tat ok_X9_sheet_0 (i := 9) (q := 17) rfl rfl) 3 rfl rfl <|
    V_if_ge (tat ok_X9_sheet_0 (i := 10) (q := 20) rfl rfl) rfl (fun c3 => V_aload_n (tat ok_X9_sheet_0 (i := 13) (q := 24) rfl rfl) 0 rfl rfl <|
    V_getR (tat ok_X9_sheet_0 (i := 14) (q := 27) rfl rfl) fk_X9_35 rfl rfl <|
    V_iload_n (tat ok_X9_sheet_0 (i := 15) (q := 28) rfl rfl) 1 rfl rfl <|
    V_iload_n (tat ok_X9_sheet_0 (i := 16) (q := 29) rfl rfl) 2 rfl rfl <|
    (if c4 : a1 < 0 ∨ 4 ≤ Int32.toNatClampNeg a1 then ((jx (P := oP P) kk (Eq.trans (if_neg c1) (Eq.trans (if_pos c2) (Eq.trans (if_pos c3) (if_pos c4)))))).elim else V_iast (tat ok_X9_sheet_0 (i := 17) (q := 30) rfl rfl) rfl c4 <|
    V_aload_n (tat ok_X9_sheet_0 (i := 18) (q := 31) rfl rfl) 0 rfl rfl <|
    V_getR (tat ok_X9_sheet_0 (i := 19) (q := 34) rfl rfl) fk_X9_38 rfl rfl <|
    V_iload_n (tat ok_X9_sheet_0 (i := 20) (q := 35) rfl rfl) 1 rfl rfl <|
    V_iload_n (tat ok_X9_sheet_0 (i := 21) (q := 36) rfl rfl) 3 rfl rfl <|
    (if c5 : a1 < 0 ∨ 4 ≤ Int32.toNatClampNeg a1 then ((jx (P := oP P) kk (Eq.trans (if_neg c1) (Eq.trans (if_pos c2) (Eq.trans (if_pos c3) (Eq.trans (if_neg c4) (if_pos c5))))))).elim else V_iast (tat ok_X9_sheet_0 (i := 22) (q := 37) rfl rfl) rfl c5 <|
    V_iconst (tat ok_X9_sheet_0 (i := 23) (q := 38) rfl rfl) ic_0 <|
    V_istore (lv' := [(4, .int 0), (0, .ref 33), (1, .int a1), (2, .int a2), (3, .int a3)]) (tat ok_X9_sheet_0 (i := 24) (q := 40) rfl rfl) (Nat.le_of_ble_eq_true rfl) rfl <|
    V_pick [1, 2, 3, 4, 0] rfl (V_X9_sheet_40 rfl hr (jx (P := oP P) kk (Eq.trans (if_neg c1) (Eq.trans (if_pos c2) (Eq.trans (if_pos c3) (Eq.trans (if_neg c4) (if_neg c5)))))))))) (fun c3 => V_bipush (tat ok_X9_sheet_0 (i := 11) (q := 22) rfl rfl) bp_m14 <|
    V_iret (tat ok_X9_sheet_0 (i := 12) (q := 23) rfl rfl) _ rfl (nar_int _) (hr ((-14), I) (jx (P := oP P) kk (Eq.trans (if_neg c1) (Eq.trans (if_pos c2) (if_neg c3))))) ⟨(Nat.le_of_ble_eq_true rfl), (Nat.le_of_ble_eq_true rfl)⟩)) (fun c2 => V_X9_sheet_14  hr (jx (P := oP P) kk (Eq.trans (if_neg c1) (if_neg c2)))))

