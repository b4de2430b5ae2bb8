theorem V_X9_isSheet  {I : WI} {L : WL} {a0 : Int32} {a1 : Int32}  {P : Int32 → Prop} {t : Tg} (hr : ∀ v, P v → t = (some (.int v), ly0, I, L, R0)) (kk : P (F_X9_isSheet a0 a1)) : V (zM x_X9_isSheet 2 0 0 t) 0 [(0, .int a0), (1, .int a1)] [] ly0 I L R0 0 0 :=
  V_iload_n (tat ok_X9_isSheet_0 (i := 0) (q := 1) rfl rfl) 0 rfl rfl <|
    V_i2l (tat ok_X9_isSheet_0 (i := 1) (q := 2) rfl rfl) <|
    V_lconst (v := 0) (tat ok_X9_isSheet_0 (i := 2) (q := 3) rfl rfl) rfl <|
    V_ldc2 (tat ok_X9_isSheet_0 (i := 3) (q := 6) rfl rfl) (gw_in kl_X9_251 rfl) <|
    V_cs3 (ct_X9_in I L (Int32.toInt64 a0) 0 3 ) mo_X9_in (tat ok_X9_isSheet_0 (i := 4) (q := 9) rfl rfl) ml_X9_97 ⟨(Nat.le_of_ble_eq_true rfl), (Nat.le_of_ble_eq_true rfl)⟩ ⟨(Nat.le_of_ble_eq_true rfl), (Nat.le_of_ble_eq_true rfl)⟩ (Nat.le_of_ble_eq_true rfl) <|
    V_if_eq (tat ok_X9_isSheet_0 (i := 5) (q := 12) rfl rfl) rfl (fun c1 => V_X9_isSheet_28  hr (jx (P := P) kk (if_pos c1))) (fun c1 => V_iload_n (tat ok_X9_isSheet_0 (i := 6) (q := 13) rfl rfl) 1 rfl rfl <|
    V_i2l (tat ok_X9_isSheet_0 (i := 7) (q := 14) rfl rfl) <|
    V_lconst (v := 0) (tat ok_X9_isSheet_0 (i := 8) (q := 15) rfl rfl) rfl <|
    V_ldc2 (tat ok_X9_isSheet_0 (i := 9) (q := 18) rfl rfl) (gw_in kl_X9_189 rfl) <|
    V_cs3 (ct_X9_in I L (Int32.toInt64 a1) 0 2 ) mo_X9_in (tat ok_X9_isSheet_0 (i := 10) (q := 21) rfl rfl) ml_X9_97 ⟨(Nat.le_of_ble_eq_true rfl), (Nat.le_of_ble_eq_true rfl)⟩ ⟨(Nat.le_of_ble_eq_true rfl), (Nat.le_of_ble_eq_true rfl)⟩ (Nat.le_of_ble_eq_true rfl) <|
    V_if_eq (tat ok_X9_isSheet_0 (i := 11) (q := 24) rfl rfl) rfl (fun c2 => V_X9_isSheet_28  hr (jx (P := P) kk (Eq.trans (if_neg c1) (if_pos c2)))) (fun c2 => V_iconst (tat ok_X9_isSheet_0 (i := 12) (q := 25) rfl rfl) ic_1 <|
    V_goto (tat ok_X9_isSheet_0 (i := 13) (q := 28) rfl rfl) rfl <|
    V_X9_isSheet_29 rfl hr (jx (P := P) kk (Eq.trans (if_neg c1) (if_neg c2)))))
