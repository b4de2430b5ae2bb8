theorem ct_X9_sheet  (I : WI) (L : WL) (a1 : Int32) (a2 : Int32) (a3 : Int32)  {v : (Int32 × WI)} (h : (F_X9_sheet I a1 a2 a3) = some v) : Ct x_X9_sheet 3 [.ref 33, .int a1, .int a2, .int a3] ly0 I L R0 0 0 (some (.int (p1 v)), ly0, (p2 v), L, R0) :=
  Ct_of_V mo_X9_sheet.1 (Nat.le_of_ble_eq_true rfl) (V_X9_sheet (P := fun x => x = v)  (fun _ e => by rw [e]) (by rw [h]; exact rfl))
def F_X9_lay_85 (I : WI) (a1 : Int32) (a2 : Int32) (a3 : Int32) (s0 : Int32) (s1 : Int32) : Option (Int32 × WI) :=
  (if s1 < 0 ∨ 160 ≤ Int32.toNatClampNeg s1 then none else some (1, (u2 I 44 (Int32.toNatClampNeg s1) s0)))
theorem V_X9_lay_85  {I : WI} {L : WL} {a1 : Int32} {a2 : Int32} {a3 : Int32} {s0 : Int32} {s1 : Int32} {P : (Int32 × WI) → Prop} {t : Tg} (hr : ∀ v, P v → t = (some (.int (p1 v)), ly0, (p2 v), L, R0)) (kk : oP P (F_X9_lay_85 I a1 a2 a3 s0 s1)) : V (zM x_X9_lay 3 0 0 t) 85 [(0, .ref 33), (1, .int a1), (2, .int a2), (3, .int a3)] [.int s0, .int s1, .ref 44] ly0 I L R0 0 0 :=
  (if c8 : s1 < 0 ∨ 160 ≤ Int32.toNatClampNeg s1 then ((jx (P := oP P) kk (if_pos c8))).elim else V_iast (tat ok_X9_lay_1 (i := 13) (q := 86) rfl rfl) rfl c8 <|
    V_iconst (tat ok_X9_lay_1 (i := 14) (q := 87) rfl rfl) ic_1 <|
    V_iret (tat ok_X9_lay_1 (i := 15) (q := 88) rfl rfl) _ rfl (nar_int _) (hr (1, (u2 I 44 (Int32.toNatClampNeg s1) s0)) (jx (P := oP P) kk (if_neg c8))) ⟨(Nat.le_of_ble_eq_true rfl), (Nat.le_of_ble_eq_true rfl)⟩)
def F_X9_lay (I : WI) (a1 : Int32) (a2 : Int32) (a3 : Int32) : Option (Int32 × WI) :=
  (if (F_X9_isSheet a1 0) = 0 then some ((-1), I) else (if a1 < 0 ∨ 4 ≤ Int32.toNatClampNeg a1 then none else (if (I 42 (Int32.toNatClampNeg a1)) = (-4) then some ((-11), I) else (if a1 < 0 ∨ 4 ≤ Int32.toNatClampNeg a1 then none else (if (F_X9_in (Int32.toInt64 a2) 0 (Int32.toInt64 ((I 43 (Int32.toNatClampNeg a1)) - 1))) = 0 then some ((-12), I) else (if a1 < 0 ∨ 4 ≤ Int32.toNatClampNeg a1 then none else (if (I 42 (Int32.toNatClampNeg a1)) = 0 then (F_X9_lay_85 I a1 a2 a3 (Int8.toInt32 (Int32.toInt8 a3)) ((40 * a1) + a2)) else (if a1 < 0 ∨ 4 ≤ Int32.toNatClampNeg a1 then none else (if (I 42 (Int32.toNatClampNeg a1)) = 1 then (F_X9_lay_85 I a1 a2 a3 (Int16.toInt32 (Int32.toInt16 a3)) ((40 * a1) + a2)) else (F_X9_lay_85 I a1 a2 a3 a3 ((40 * a1) + a2)))))))))))
theorem V_X9_lay  {I : WI} {L : WL} {a1 : Int32} {a2 : Int32} {a3 : Int32}  {P : (Int32 × WI) → Prop} {t : Tg} (hr : ∀ v, P v → t = (some (.int (p1 v)), ly0, (p2 v), L, R0)) (kk : oP P (F_X9_lay I a1 a2 a3)) : V (zM x_X9_lay 3 0 0 t) 0 [(0, .ref 33), (1, .int a1), (2, .int a2), (3, .int a3)] [] ly0 I L R0 0 0 :=
  V_iload_n (tat ok_X9_lay_0 (i := 0) (q := 1) rfl rfl) 1 rfl rfl <|
    V_iconst (tat ok_X9_lay_0 (i := 1) (q := 2) rfl rfl) ic_0 <|
    V_cs2 (ct_X9_isSheet I L a1 0 ) mo_X9_isSheet (tat ok_X9_lay_0 (i := 2) (q := 5) rfl rfl) ml_X9_333 ⟨(Nat.le_of_ble_eq_true rfl), (Nat.le_of_ble_eq_true rfl)⟩ ⟨(Nat.le_of_ble_eq_true rfl), (Nat.le_of_ble_eq_true rfl)⟩ (Nat.le_of_ble_eq_true rfl) <|
    V_if_ne (tat ok_X9_lay_0 (i := 3) (q := 8) rfl rfl) rfl (fun c1 => V_aload_n (tat ok_X9_lay_0 (i := 6) (q := 11) rfl rfl) 0 rfl rfl <|
    V_getR (tat ok_X9_lay_0 (i := 7) (q := 14) rfl rfl) fk_X9_35 rfl rfl <|
    V_iload_n (tat ok_X9_lay_0 (i := 8) (q := 15) rfl rfl) 1 rfl rfl <|
    (if c2 : a1 < 0 ∨ 4 ≤ Int32.toNatClampNeg a1 then ((jx (P := oP P) kk (Eq.trans (if_neg c1) (if_pos c2)))).elim else V_iald (tat ok_X9_lay_0 (i := 9) (q := 16) rfl rfl) rfl c2 <|
    V_bipush (tat ok_X9_lay_0 (i := 10) (q := 18) rfl rfl) bp_m4 <|
    V_icmp_ne (tat ok_X9_lay_0 (i := 11) (q := 21) rfl rfl) rfl (fun c3 => V_iload_n (tat ok_X9_lay_0 (i := 14) (q := 25) rfl rfl) 2 rfl rfl <|
    V_i2l (tat ok_X9_lay_0 (i := 15) (q := 26) rfl rfl) <|
    V_lconst (v := 0) (tat ok_X9_lay_0 (i := 16) (q := 27) rfl rfl) rfl <|
    V_aload_n (tat ok_X9_lay_0 (i := 17) (q := 28) rfl rfl) 0 rfl rfl <|
    V_getR (tat ok_X9_lay_0 (i := 18) (q := 31) rfl rfl) fk_X9_38 rfl rfl <|
    V_iload_n (tat ok_X9_lay_0 (i := 19) (q := 32) rfl rfl) 1 rfl rfl <|
    (if c4 : a1 < 0 ∨ 4 ≤ Int32.toNatClampNeg a1 then ((jx (P := oP P) kk (Eq.trans (if_neg c1) (Eq.trans (if_neg c2) (Eq.trans (if_neg c3) (if_pos c4)))))).elim else V_iald (tat ok_X9_lay_0 (i := 20) (q := 33) rfl rfl) rfl c4 <|
    V_iconst (tat ok_X9_lay_0 (i := 21) (q := 34) rfl rfl) ic_1 <|
    V_isub (tat ok_X9_lay_0 (i := 22) (q := 35) rfl rfl) <|
    V_i2l (tat ok_X9_lay_0 (i := 23) (q := 36) rfl rfl) <|
    V_cs3 (ct_X9_in I L (Int32.toInt64 a2) 0 (Int32.toInt64 ((I 43 (Int32.toNatClampNeg a1)) - 1)) ) mo_X9_in (tat ok_X9_lay_0 (i := 24) (q := 39) rfl rfl) ml_X9_97 ⟨(Nat.le_of_ble_eq_true rfl), (Nat.le_of_ble_eq_true rfl)⟩ ⟨(Nat.le_of_ble_eq_true rfl), (Nat.le_of_ble_eq_true rfl)⟩ (Nat.le_of_ble_eq_true rfl) <|
    V_if_ne (tat ok_X9_lay_0 (i := 25) (q := 42) rfl rfl) rfl (fun c5 => V_aload_n (tat ok_X9_lay_0 (i := 28) (q := 46) rfl rfl) 0 rfl rfl <|
    V_getR (tat ok_X9_lay_0 (i := 29) (q := 49) rfl rfl) fk_X9_41 rfl rfl <|
    V_bipush (tat ok_X9_lay_0 (i := 30) (q := 51) rfl rfl) bp_40 <|
    V_iload_n (tat ok_X9_lay_0 (i := 31) (q := 52) rfl rfl) 1 rfl rfl <|
    V_imul (tat ok_X9_lay_0 (i := 32) (q := 53) rfl rfl) <|
    V_iload_n (tat ok_X9_lay_0 (i := 33) (q := 54) rfl rfl) 2 rfl rfl <|
    V_iadd (tat ok_X9_lay_0 (i := 34) (q := 55) rfl rfl) <|
    V_aload_n (tat ok_X9_lay_0 (i := 35) (q := 56) rfl rfl) 0 rfl rfl <|
    V_getR (tat ok_X9_lay_0 (i := 36) (q := 59) rfl rfl) fk_X9_35 rfl rfl <|
    V_iload_n (tat ok_X9_lay_0 (i := 37) (q := 60) rfl rfl) 1 rfl rfl <|
    (if c6 : a1 < 0 ∨ 4 ≤ Int32.toNatClampNeg a1 then ((jx (P := oP P) kk (Eq.trans (if_neg c1) (Eq.trans (if_neg c2) (Eq.trans (if_neg c3) (Eq.trans (if_neg c4) (Eq.trans (if_neg c5) (if_pos c6)))))))).elim else V_iald (tat ok_X9_lay_0 (i := 38) (q := 61) rfl rfl) rfl c6 <|
    V_if_ne (tat ok_X9_lay_0 (i := 39) (q := 64) rfl rfl) rfl (fun c7 => V_aload_n (tat ok_X9_lay_1 (i := 3) (q := 70) rfl rfl) 0 rfl rfl <|
    V_getR (tat ok_X9_lay_1 (i := 4) (q := 73) rfl rfl) fk_X9_35 rfl rfl <|
    V_iload_n (tat ok_X9_lay_1 (i := 5) (q := 74) rfl rfl) 1 rfl rfl <|
    (if c9 : a1 < 0 ∨ 4 ≤ Int32.toNatClampNeg a1 then ((jx (P := oP P) kk (Eq.trans (if_neg c1) (Eq.trans (if_neg c2) (Eq.trans (if_neg c3) (Eq.trans (if_neg c4) (Eq.trans (if_neg c5) (Eq.trans (if_neg c6) (Eq.trans (if_neg c7) (if_pos c9)))))))))).elim else V_iald (tat ok_X9_lay_1 (i := 6) (q := 75) rfl rfl) rfl c9 <|
    V_iconst (tat ok_X9_lay_1 (i := 7) (q := 76) rfl rfl) ic_1 <|
    V_icmp_ne (tat ok_X9_lay_1 (i := 8) (q := 79) rfl rfl) rfl (fun c10 => V_iload_n (tat ok_X9_lay_1 (i := 12) (q := 85) rfl rfl) 3 rfl rfl <|
    V_X9_lay_85  hr (jx (P := oP P) kk (Eq.trans (if_neg c1) (Eq.trans (if_neg c2) (Eq.trans (if_neg c3) (Eq.trans (if_neg c4) (Eq.trans (if_neg c5) (Eq.trans (if_neg c6) (Eq.trans (if_neg c7) (Eq.trans (if_neg c9) (if_neg c10))))))))))) (fun c10 => V_iload_n (tat ok_X9_lay_1 (i := 9) (q := 80) rfl rfl) 3 rfl rfl <|
    V_i2s (tat ok_X9_lay_1 (i := 10) (q := 81) rfl rfl) <|
    V_goto (tat ok_X9_lay_1 (i := 11) (q := 84) rfl rfl) rfl <|
    V_X9_lay_85  hr (jx (P := oP P) kk (Eq.trans (if_neg c1) (Eq.trans (if_neg c2) (Eq.trans (if_neg c3) (Eq.trans (if_neg c4) (Eq.trans (if_neg c5) (Eq.trans (if_neg c6) (Eq.trans (if_neg c7) (Eq.trans (if_neg c9) (if_pos c10))))))))))))) (fun c7 => V_iload_n (tat ok_X9_lay_1 (i := 0) (q := 65) rfl rfl) 3 rfl rfl <|
    V_i2b (tat ok_X9_lay_1 (i := 1) (q := 66) rfl rfl) <|
    V_goto (tat ok_X9_lay_1 (i := 2) (q := 69) rfl rfl) rfl <|
    V_X9_lay_85  hr (jx (P := oP P) kk (Eq.trans (if_neg c1) (Eq.trans (if_neg c2) (Eq.trans (if_neg c3) (Eq.trans (if_neg c4) (Eq.trans (if_neg c5) (Eq.trans (if_neg c6) (if_pos c7))))))))))) (fun c5 => V_bipush (tat ok_X9_lay_0 (i := 26) (q := 44) rfl rfl) bp_m12 <|
    V_iret (tat ok_X9_lay_0 (i := 27) (q := 45) rfl rfl) _ rfl (nar_int _) (hr ((-12), I) (jx (P := oP P) kk (Eq.trans (if_neg c1) (Eq.trans (if_neg c2) (Eq.trans (if_neg c3) (Eq.trans (if_neg c4) (if_pos c5))))))) ⟨(Nat.le_of_ble_eq_true rfl), (Nat.le_of_ble_eq_true rfl)⟩))) (fun c3 => V_bipush (tat ok_X9_lay_0 (i := 12) (q := 23) rfl rfl) bp_m11 <|
    V_iret (tat ok_X9_lay_0 (i := 13) (q := 24) rfl rfl) _ rfl (nar_int _) (hr ((-11), I) (jx (P := oP P) kk (Eq.trans (if_neg c1) (Eq.trans (if_neg c2) (if_pos c3))))) ⟨(Nat.le_of_ble_eq_true rfl), (Nat.le_of_ble_eq_true rfl)⟩))) (fun c1 => V_iconst (tat ok_X9_lay_0 (i := 4) (q := 9) rfl rfl) ic_m1 <|
    V_iret (tat ok_X9_lay_0 (i := 5) (q := 10) rfl rfl) _ rfl (nar_int _) (hr ((-1), I) (jx (P := oP P) kk (if_pos c1))) ⟨(Nat.le_of_ble_eq_true rfl), (Nat.le_of_ble_eq_true rfl)⟩)
theorem ct_X9_lay  (I : WI) (L : WL) (a1 : Int32) (a2 : Int32) (a3 : Int32)  {v : (Int32 × WI)} (h : (F_X9_lay I a1 a2 a3) = some v) : Ct x_X9_lay 3 [.ref 33, .int a1, .int a2, .int a3] ly0 I L R0 0 0 (some (.int (p1 v)), ly0, (p2 v), L, R0) :=
  Ct_of_V mo_X9_lay.1 (Nat.le_of_ble_eq_true rfl) (V_X9_lay (P := fun x => x = v)  (fun _ e => by rw [e]) (by rw [h]; exact rfl))
def F_X9_read_21 (I : WI) (L : WL) (a1 : Int32) (a2 : Int32) (a3 : Int32) (a4 : Int32) : Option (Int32 × WI × WL) :=
  some ((-1), I, L)
theorem V_X9_read_21  {I : WI} {L : WL} {a1 : Int32} {a2 : Int32} {a3 : Int32} {a4 : Int32}  {P : (Int32 × WI × WL) → Prop} {t : Tg} (hr : ∀ v, P v → t = (some (.int (p1 v)), ly0, (p1 (p2 v)), (p2 (p2 v)), R0)) (kk : oP P (F_X9_read_21 I L a1 a2 a3 a4)) : V (zM x_X9_read 4 0 0 t) 21 [(0, .ref 33), (1, .int a1), (2, .int a2), (3, .int a3), (4, .int a4)] [] ly0 I L R0 0 0 :=
  V_iconst (tat ok_X9_read_0 (i := 10) (q := 22) rfl rfl) ic_m1 <|
    V_iret (tat ok_X9_read_0 (i := 11) (q := 23) rfl rfl) _ rfl (nar_int _) (hr ((-1), I, L) (jx (P := oP P) kk rfl)) ⟨(Nat.le_of_ble_eq_true rfl), (Nat.le_of_ble_eq_true rfl)⟩
def F_X9_read_126_2 (I : WI) (L : WL) (a1 : Int32) (a2 : Int32) (a3 : Int32) (a4 : Int32) (a6 : Int32) (a7 : Int32) (a8 : Int32) (s0 : Int32) : Option (Int32 ⊕ (Int32 × Int32)) :=
  some (.inr (s0, (a8 + 1)))
theorem V_X9_read_126_2  {I : WI} {L : WL} {a1 : Int32} {a2 : Int32} {a3 : Int32} {a4 : Int32} {a6 : Int32} {a7 : Int32} {a8 : Int32} {s0 : Int32} {P : (Int32 ⊕ (Int32 × Int32)) → Prop} {t : Tg} (he : ∀ x : Int32, P (.inl x) → V (zM x_X9_read 4 0 0 t) 134 [(0, .ref 33), (1, .int a1), (2, .int a2), (3, .int a3), (4, .int a4), (5, .int x), (6, .int a6), (7, .int a7)] [] ly0 I L R0 0 0) (hk : ∀ x : (Int32 × Int32), P (.inr x) → V (zM x_X9_read 4 0 0 t) 47 [(0, .ref 33), (1, .int a1), (2, .int a2), (3, .int a3), (4, .int a4), (5, .int (p1 x)), (6, .int a6), (7, .int a7), (8, .int (p2 x))] [] ly0 I L R0 0 0) (kk : oP P (F_X9_read_126_2 I L a1 a2 a3 a4 a6 a7 a8 s0)) : V (zM x_X9_read 4 0 0 t) 126 [(0, .ref 33), (1, .int a1), (2, .int a2), (3, .int a3), (4, .int a4), (6, .int a6), (7, .int a7), (8, .int a8)] [.int s0] ly0 I L R0 0 0 :=
  V_istore (lv' := [(5, .int s0), (0, .ref 33), (1, .int a1), (2, .int a2), (3, .int a3), (4, .int a4), (6, .int a6), (7, .int a7), (8, .int a8)]) (tat ok_X9_read_1 (i := 32) (q := 128) rfl rfl) (Nat.le_of_ble_eq_true rfl) rfl <|
    V_iinc (v := (a8 + 1)) (lv' := [(8, .int (a8 + 1)), (5, .int s0), (0, .ref 33), (1, .int a1), (2, .int a2), (3, .int a3), (4, .int a4), (6, .int a6), (7, .int a7)]) (tat ok_X9_read_1 (i := 33) (q := 131) rfl rfl) 8 rfl (ia ic_1) (Nat.le_of_ble_eq_true rfl) rfl <|
    V_goto (tat ok_X9_read_1 (i := 34) (q := 134) rfl rfl) rfl <|
    V_pick [2, 3, 4, 5, 6, 1, 7, 8, 0] rfl (hk (s0, (a8 + 1)) (jx (P := oP P) kk rfl))
def F_X9_read_121_2 (I : WI) (L : WL) (a1 : Int32) (a2 : Int32) (a3 : Int32) (a4 : Int32) (a6 : Int32) (a7 : Int32) (a8 : Int32) : Option (Int32 ⊕ (Int32 × Int32)) :=
  (F_X9_read_126_2 I L a1 a2 a3 a4 a6 a7 a8 2)
theorem V_X9_read_121_2  {I : WI} {L : WL} {a1 : Int32} {a2 : Int32} {a3 : Int32} {a4 : Int32} {a6 : Int32} {a7 : Int32} {a8 : Int32} {P : (Int32 ⊕ (Int32 × Int32)) → Prop} {t : Tg} (he : ∀ x : Int32, P (.inl x) → V (zM x_X9_read 4 0 0 t) 134 [(0, .ref 33), (1, .int a1), (2, .int a2), (3, .int a3), (4, .int a4), (5, .int x), (6, .int a6), (7, .int a7)] [] ly0 I L R0 0 0) (hk : ∀ x : (Int32 × Int32), P (.inr x) → V (zM x_X9_read 4 0 0 t) 47 [(0, .ref 33), (1, .int a1), (2, .int a2), (3, .int a3), (4, .int a4), (5, .int (p1 x)), (6, .int a6), (7, .int a7), (8, .int (p2 x))] [] ly0 I L R0 0 0) (kk : oP P (F_X9_read_121_2 I L a1 a2 a3 a4 a6 a7 a8)) : V (zM x_X9_read 4 0 0 t) 121 [(0, .ref 33), (1, .int a1), (2, .int a2), (3, .int a3), (4, .int a4), (6, .int a6), (7, .int a7), (8, .int a8)] [] ly0 I L R0 0 0 :=
  V_iconst (tat ok_X9_read_1 (i := 29) (q := 122) rfl rfl) ic_2 <|
    V_goto (tat ok_X9_read_1 (i := 30) (q := 125) rfl rfl) rfl <|
    V_X9_read_126_2  he hk (jx (P := oP P) kk rfl)
