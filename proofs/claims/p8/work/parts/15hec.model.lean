theorem V_X9_lay  {I : WI} {L : WL} {a1 : Int32} {a2 : Int32} {a3 : Int32}  {P : (Int32 × WI) → Prop} {t : Tg} (hr : ∀ v, P v → t = (some (.int (p1 v)), ly0, (p2 v), L, R0)) (kk : oP P (F_X9_lay I a1 a2 a3)) : V (zM x_X9_lay 3 0 0 t) 0 [(0, .ref 33), (1, .int a1), (2, .int a2), (3, .int a3)] [] ly0 I L R0 0 0 :=
  V_iload_n (tat ok_X9_lay_0 (i := 0) (q := 1) rfl rfl) 1 rfl rfl <|
    V_iconst (tat ok_X9_lay_0 (i := 1) (q := 2) rfl rfl) ic_0 <|
    V_cs2 (ct_X9_isSheet I L a1 0 ) mo_X9_isSheet (tat ok_X9_lay_0 (i := 2) (q := 5) rfl rfl) ml_X9_333 ⟨(Nat.le_of_ble_eq_true rfl), (Nat.le_of_ble_eq_true rfl)⟩ ⟨(Nat.le_of_ble_eq_true rfl), (Nat.le_of_ble_eq_true rfl)⟩ (Nat.le_of_ble_eq_true rfl) <|
    V_if_ne (tat ok_X9_lay_0 (i := 3) (q := 8) rfl rfl) rfl (fun c1 => V_aload_n (tat ok_X9_lay_0 (i := 6) (q := 11) rfl rfl) 0 rfl rfl <|
    V_getR (tat ok_X9_lay_0 (i := 7) (q := 14) rfl rfl) fk_X9_35 rfl rfl <|
    V_iload_n (tat ok_X9_lay_0 (i := 8) (q := 15) rfl rfl) 1 rfl rfl <|
    (if c2 : a1 < 0 ∨ 4 ≤ Int32.toNatClampNeg a1 then ((jx (P := oP P) kk (Eq.trans (if_neg c1) (if_pos c2)))).elim else V_iald (tat ok_X9_lay_0 (i := 9) (q := 16) rfl rfl) rfl c2 <|
    V_bipush (tat ok_X9_lay_0 (i := 10) (q := 18) rfl rfl) bp_m4 <|
    V_icmp_ne (tat ok_X9_lay_0 (i := 11) (q := 21) rfl rfl) rfl (fun c3 => V_iload_n (tat ok_X9_lay_0 (i := 14) (q := 25) rfl rfl) 2 rfl rfl <|
    V_i2l (tat ok_X9_lay_0 (i := 15) (q := 26) rfl rfl) <|
    V_lconst (v := 0) (tat ok_X9_lay_0 (i := 16) (q := 27) rfl rfl) rfl <|
    V_aload_n (tat ok_X9_lay_0 (i := 17) (q := 28) rfl rfl) 0 rfl rfl <|
    V_getR (tat ok_X9_lay_0 (i := 18) (q := 31) rfl rfl) fk_X9_38 rfl rfl <|
    V_iload_n (tat ok_X9_lay_0 (i := 19) (q := 32) rfl rfl) 1 rfl rfl <|
    (if c4 : a1 < 0 ∨ 4 ≤ Int32.toNatClampNeg a1 then ((jx (P := oP P) kk (Eq.trans (if_neg c1) (Eq.trans (if_neg c2) (Eq.trans (if_neg c3) (if_pos c4)))))).elim else V_iald (tat ok_X9_lay_0 (i := 20) (q := 33) rfl rfl) rfl c4 <|
    V_iconst (tat ok_X9_lay_0 (i := 21) (q := 34) rfl rfl) ic_1 <|
    V_isub (tat ok_X9_lay_0 (i := 22) (q := 35) rfl rfl) <|
    V_i2l (tat ok_X9_lay_0 (i := 23) (q := 36) rfl rfl) <|
    V_cs3 (ct_X9_in I L (Int32.toInt64 a2) 0 (Int32.toInt64 ((I 43 (Int32.toNatClampNeg a1)) - 1)) ) mo_X9_in (tat ok_X9_lay_0 (i := 24) (q := 39) rfl rfl) ml_X9_97 ⟨(Nat.le_of_ble_eq_true rfl), (Nat.le_of_ble_eq_true rfl)⟩ ⟨(Nat.le_of_ble_eq_true rfl), (Nat.le_of_ble_eq_true rfl)⟩ (Nat.le_of_ble_eq_true rfl) <|
    V_if_ne (tat ok_X9_lay_0 (i := 25) (q := 42) rfl rfl) rfl (fun c5 => V_aload_n (tat ok_X9_lay_0 (i := 28) (q := 46) rfl rfl) 0 rfl rfl <|
    V_getR (tat ok_X9_lay_0 (i := 29) (q := 49) rfl rfl) fk_X9_41 rfl rfl <|
    V_bipush (tat ok_X9_lay_0 (i := 30) (q := 51) rfl rfl) bp_40 <|
    V_iload_n (tat ok_X9_lay_0 (i := 31) (q := 52) rfl rfl) 1 rfl rfl <|
    V_imul (tat ok_X9_lay_0 (i := 32) (q := 53) rfl rfl) <|
    V_iload_n (tat ok_X9_lay_0 (i := 33) (q := 54) rfl rfl) 2 rfl rfl <|
    V_iadd (tat ok_X9_lay_0 (i := 34) (q := 55) rfl rfl) <|
    V_aload_n (tat ok_X9_lay_0 (i := 35) (q := 56) rfl rfl) 0 rfl rfl <|
    V_getR (tat ok_X9_lay_0 (i := 36) (q := 59) rfl rfl) fk_X9_35 rfl rfl <|
    V_iload_n (tat ok_X9_lay_0 (i := 37) (q := 60) rfl rfl) 1 rfl rfl <|
    (if c6 : a1 < 0 ∨ 4 ≤ Int32.toNatClampNeg a1 then ((jx (P := oP P) kk (Eq.trans (if_neg c1) (Eq.trans (if_neg c2) (Eq.trans (if_neg c3) (Eq.trans (if_neg c4) (Eq.trans (if_neg c5) (if_pos c6)))))))).elim else V_iald (tat ok_X9_lay_0 (i := 38) (q := 61) rfl rfl) rfl c6 <|
    V_if_ne (tat ok_X9_lay_0 (i := 39) (q := 64) rfl rfl) rfl (fun c7 => V_aload_n (tat ok_X9_lay_1 (i := 3) (q := 70) rfl rfl) 0 rfl rfl <|
    V_getR (tat ok_X9_lay_1 (i := 4) (q := 73) rfl rfl) fk_X9_35 rfl rfl <|
    V_iload_n (tat ok_X9_lay_1 (i := 5) (q := 74) rfl rfl) 1 rfl rfl <|
    (if c9 : a1 < 0 ∨ 4 ≤ Int32.toNatClampNeg a1 then ((jx (P := oP P) kk (Eq.trans (if_neg c1) (Eq.trans (if_neg c2) (Eq.trans (if_neg c3) (Eq.trans (if_neg c4) (Eq.trans (if_neg c5) (Eq.trans (if_neg c6) (Eq.trans (if_neg c7) (if_pos c9)))))))))).elim else V_iald (tat ok_X9_lay_1 (i := 6) (q := 75) rfl rfl) rfl c9 <|
    V_iconst (tat ok_X9_lay_1 (i := 7) (q := 76) rfl rfl) ic_1 <|
    V_icmp_ne (tat ok_X9_lay_1 (i := 8) (q := 79) rfl rfl) rfl (fun c10 => V_iload_n (tat ok_X9_lay_1 (i := 12) (q := 85) rfl rfl) 3 rfl rfl <|
    V_X9_lay_85  hr (jx (P := oP P) kk (Eq.trans (if_neg c1) (Eq.trans (if_neg c2) (Eq.trans (if_neg c3) (Eq.trans (if_neg c4) (Eq.trans (if_neg c5) (Eq.trans (if_neg c6) (Eq.trans (if_neg c7) (Eq.trans (if_neg c9) (if_neg c10))))))))))) (fun c10 => V_iload_n (tat ok_X9_lay_1 (i := 9) (q := 80) rfl rfl) 3 rfl rfl <|
    V_i2s (tat ok_X9_lay_1 (i := 10) (q := 81) rfl rfl) <|
    V_goto (tat ok_X9_lay_1 (i := 11) (q := 84) rfl rfl) rfl <|
    V_X9_lay_85  hr (jx (P := oP P) kk (Eq.trans (if_neg c1) (Eq.trans (if_neg c2) (Eq.trans (if_neg c3) (Eq.trans (if_neg c4) (Eq.trans (if_neg c5) (Eq.trans (if_neg c6) (Eq.trans (if_neg c7) (Eq.trans (if_neg c9) (if_pos c10))))))))))))) (fun c7 => V_iload_n (tat ok_X9_lay_1 (i := 0) (q := 65) rfl rfl) 3 rfl rfl <|
    V_i2b (tat ok_X9_lay_1 (i := 1) (q := 66) rfl rfl) <|
    V_goto (tat ok_X9_lay_1 (i := 2) (q := 69) rfl rfl) rfl <|
    V_X9_lay_85  hr (jx (P := oP P) kk (Eq.trans (if_neg c1) (Eq.trans (if_neg c2) (Eq.trans (if_neg c3) (Eq.trans (if_neg c4) (Eq.trans (if_neg c5) (Eq.trans (if_neg c6) (if_pos c7))))))))))) (fun c5 => V_bipush (tat ok_X9_lay_0 (i := 26) (q := 44) rfl rfl) bp_m12 <|
    V_iret (tat ok_X9_lay_0 (i := 27) (q := 45) rfl rfl) _ rfl (nar_int _) (hr ((-12), I) (jx (P := oP P) kk (Eq.trans (if_neg c1) (Eq.trans (if_neg c2) (Eq.trans (if_neg c3) (Eq.trans (if_neg c4) (if_pos c5))))))) ⟨(Nat.le_of_ble_eq_true rfl), (Nat.le_of_ble_eq_true rfl)⟩))) (fun c3 => V_bipush (tat ok_X9_lay_0 (i := 12) (q := 23) rfl rfl) bp_m11 <|
    V_iret (tat ok_X9_lay_0 (i := 13) (q := 24) rfl rfl) _ rfl (nar_int _) (hr ((-11), I) (jx (P := oP P) kk (Eq.trans (if_neg c1) (Eq.trans (if_neg c2) (if_pos c3))))) ⟨(Nat.le_of_ble_eq_true rfl), (Nat.le_of_ble_eq_true rfl)⟩))) (fun c1 => V_iconst (tat ok_X9_lay_0 (i := 4) (q := 9) rfl rfl) ic_m1 <|
    V_iret (tat ok_X9_lay_0 (i := 5) (q := 10) rfl rfl) _ rfl (nar_int _) (hr ((-1), I) (jx (P := oP P) kk (if_pos c1))) ⟨(Nat.le_of_ble_eq_true rfl), (Nat.le_of_ble_eq_true rfl)⟩)
