def F_X9_read_47_2 (I : WI) (L : WL) (a1 : Int32) (a2 : Int32) (a3 : Int32) (a4 : Int32) (a6 : Int32) (a7 : Int32) (a5 : Int32) (a8 : Int32) : Option (Int32 ⊕ (Int32 × Int32)) :=
  (if 2 ≤ a8 then some (.inl a5) else (if a5 = 0 then (if a1 < 0 ∨ 4 ≤ Int32.toNatClampNeg a1 then none else (if (I 42 (Int32.toNatClampNeg a1)) = (-4) then (F_X9_read_126_2 I L a1 a2 a3 a4 a6 a7 a8 1) else (if a1 < 0 ∨ 4 ≤ Int32.toNatClampNeg a1 then none else (if (I 42 (Int32.toNatClampNeg a1)) = a2 then (if (lg_cmp (((Int32.toInt64 a3) + (Int32.toInt64 (2 * a7))) + (Int32.toInt64 a8)) 0) < 0 then (F_X9_read_121_2 I L a1 a2 a3 a4 a6 a7 a8) else (if a1 < 0 ∨ 4 ≤ Int32.toNatClampNeg a1 then none else (if (lg_cmp (((Int32.toInt64 a3) + (Int32.toInt64 (2 * a7))) + (Int32.toInt64 a8)) (Int32.toInt64 (I 43 (Int32.toNatClampNeg a1)))) < 0 then (F_X9_read_126_2 I L a1 a2 a3 a4 a6 a7 a8 0) else (F_X9_read_121_2 I L a1 a2 a3 a4 a6 a7 a8)))) else (F_X9_read_126_2 I L a1 a2 a3 a4 a6 a7 a8 3))))) else some (.inl a5)))
theorem V_X9_read_47_2  {I : WI} {L : WL} {a1 : Int32} {a2 : Int32} {a3 : Int32} {a4 : Int32} {a6 : Int32} {a7 : Int32} {a5 : Int32} {a8 : Int32} {P : (Int32 ⊕ (Int32 × Int32)) → Prop} {t : Tg} (he : ∀ x : Int32, P (.inl x) → V (zM x_X9_read 4 0 0 t) 134 [(0, .ref 33), (1, .int a1), (2, .int a2), (3, .int a3), (4, .int a4), (5, .int x), (6, .int a6), (7, .int a7)] [] ly0 I L R0 0 0) (hk : ∀ x : (Int32 × Int32), P (.inr x) → V (zM x_X9_read 4 0 0 t) 47 [(0, .ref 33), (1, .int a1), (2, .int a2), (3, .int a3), (4, .int a4), (5, .int (p1 x)), (6, .int a6), (7, .int a7), (8, .int (p2 x))] [] ly0 I L R0 0 0) (kk : oP P (F_X9_read_47_2 I L a1 a2 a3 a4 a6 a7 a5 a8)) : V (zM x_X9_read 4 0 0 t) 47 [(0, .ref 33), (1, .int a1), (2, .int a2), (3, .int a3), (4, .int a4), (5, .int a5), (6, .int a6), (7, .int a7), (8, .int a8)] [] ly0 I L R0 0 0 :=
  V_iload (tat ok_X9_read_0 (i := 25) (q := 49) rfl rfl) 8 rfl <|
    V_iconst (tat ok_X9_read_0 (i := 26) (q := 50) rfl rfl) ic_2 <|
    V_icmp_ge (tat ok_X9_read_0 (i := 27) (q := 53) rfl rfl) rfl (fun c5 => V_pick [0, 1, 2, 3, 4, 5, 6, 7] rfl (he a5 (jx (P := oP P) kk (if_pos c5)))) (fun c5 => V_iload (tat ok_X9_read_0 (i := 28) (q := 55) rfl rfl) 5 rfl <|
    V_if_ne (tat ok_X9_read_0 (i := 29) (q := 58) rfl rfl) rfl (fun c6 => V_pick [0, 1, 2, 3, 4, 5, 6, 7] rfl (he a5 (jx (P := oP P) kk (Eq.trans (if_neg c5) (if_neg c6))))) (fun c6 => V_iload_n (tat ok_X9_read_0 (i := 30) (q := 59) rfl rfl) 3 rfl rfl <|
    V_i2l (tat ok_X9_read_0 (i := 31) (q := 60) rfl rfl) <|
    V_iconst (tat ok_X9_read_0 (i := 32) (q := 61) rfl rfl) ic_2 <|
    V_iload (tat ok_X9_read_0 (i := 33) (q := 63) rfl rfl) 7 rfl <|
    V_imul (tat ok_X9_read_0 (i := 34) (q := 64) rfl rfl) <|
    V_i2l (tat ok_X9_read_0 (i := 35) (q := 65) rfl rfl) <|
    V_ladd (tat ok_X9_read_0 (i := 36) (q := 66) rfl rfl) <|
    V_iload (tat ok_X9_read_0 (i := 37) (q := 68) rfl rfl) 8 rfl <|
    V_i2l (tat ok_X9_read_0 (i := 38) (q := 69) rfl rfl) <|
    V_ladd (tat ok_X9_read_0 (i := 39) (q := 70) rfl rfl) <|
    V_lstore (lv' := [(9, .long (((Int32.toInt64 a3) + (Int32.toInt64 (2 * a7))) + (Int32.toInt64 a8))), (0, .ref 33), (1, .int a1), (2, .int a2), (3, .int a3), (4, .int a4), (5, .int a5), (6, .int a6), (7, .int a7), (8, .int a8)]) (tat ok_X9_read_1 (i := 0) (q := 72) rfl rfl) (Nat.le_of_ble_eq_true rfl) rfl <|
    V_aload_n (tat ok_X9_read_1 (i := 1) (q := 73) rfl rfl) 1 rfl rfl <|
    V_getR (tat ok_X9_read_1 (i := 2) (q := 76) rfl rfl) fk_X9_35 rfl rfl <|
    V_iload_n (tat ok_X9_read_1 (i := 3) (q := 77) rfl rfl) 2 rfl rfl <|
    (if c7 : a1 < 0 ∨ 4 ≤ Int32.toNatClampNeg a1 then ((jx (P := oP P) kk (Eq.trans (if_neg c5) (Eq.trans (if_pos c6) (if_pos c7))))).elim else V_iald (tat ok_X9_read_1 (i := 4) (q := 78) rfl rfl) rfl c7 <|
    V_bipush (tat ok_X9_read_1 (i := 5) (q := 80) rfl rfl) bp_m4 <|
    V_icmp_ne (tat ok_X9_read_1 (i := 6) (q := 83) rfl rfl) rfl (fun c8 => V_aload_n (tat ok_X9_read_1 (i := 9) (q := 88) rfl rfl) 1 rfl rfl <|
    V_getR (tat ok_X9_read_1 (i := 10) (q := 91) rfl rfl) fk_X9_35 rfl rfl <|
    V_iload_n (tat ok_X9_read_1 (i := 11) (q := 92) rfl rfl) 2 rfl rfl <|
    (if c9 : a1 < 0 ∨ 4 ≤ Int32.toNatClampNeg a1 then ((jx (P := oP P) kk (Eq.trans (if_neg c5) (Eq.trans (if_pos c6) (Eq.trans (if_neg c7) (Eq.trans (if_neg c8) (if_pos c9))))))).elim else V_iald (tat ok_X9_read_1 (i := 12) (q := 93) rfl rfl) rfl c9 <|
    V_iload_n (tat ok_X9_read_1 (i := 13) (q := 94) rfl rfl) 3 rfl rfl <|
    V_icmp_eq (tat ok_X9_read_1 (i := 14) (q := 97) rfl rfl) rfl (fun c10 => V_lload (tat ok_X9_read_1 (i := 17) (q := 103) rfl rfl) 0 rfl <|
    V_lconst (v := 0) (tat ok_X9_read_1 (i := 18) (q := 104) rfl rfl) rfl <|
    V_lcmp (tat ok_X9_read_1 (i := 19) (q := 105) rfl rfl) <|
    V_if_lt (tat ok_X9_read_1 (i := 20) (q := 108) rfl rfl) rfl (fun c11 => V_pick [1, 2, 3, 4, 5, 7, 8, 9] rfl (V_X9_read_121_2  he hk (jx (P := oP P) kk (Eq.trans (if_neg c5) (Eq.trans (if_pos c6) (Eq.trans (if_neg c7) (Eq.trans (if_neg c8) (Eq.trans (if_neg c9) (Eq.trans (if_pos c10) (if_pos c11)))))))))) (fun c11 => V_lload (tat ok_X9_read_1 (i := 21) (q := 110) rfl rfl) 0 rfl <|
    V_aload_n (tat ok_X9_read_1 (i := 22) (q := 111) rfl rfl) 1 rfl rfl <|
    V_getR (tat ok_X9_read_1 (i := 23) (q := 114) rfl rfl) fk_X9_38 rfl rfl <|
    V_iload_n (tat ok_X9_read_1 (i := 24) (q := 115) rfl rfl) 2 rfl rfl <|
    (if c12 : a1 < 0 ∨ 4 ≤ Int32.toNatClampNeg a1 then ((jx (P := oP P) kk (Eq.trans (if_neg c5) (Eq.trans (if_pos c6) (Eq.trans (if_neg c7) (Eq.trans (if_neg c8) (Eq.trans (if_neg c9) (Eq.trans (if_pos c10) (Eq.trans (if_neg c11) (if_pos c12)))))))))).elim else V_iald (tat ok_X9_read_1 (i := 25) (q := 116) rfl rfl) rfl c12 <|
    V_i2l (tat ok_X9_read_1 (i := 26) (q := 117) rfl rfl) <|
    V_lcmp (tat ok_X9_read_1 (i := 27) (q := 118) rfl rfl) <|
    V_if_lt (tat ok_X9_read_1 (i := 28) (q := 121) rfl rfl) rfl (fun c13 => V_iconst (tat ok_X9_read_1 (i := 31) (q := 126) rfl rfl) ic_0 <|
    V_pick [1, 2, 3, 4, 5, 7, 8, 9] rfl (V_X9_read_126_2  he hk (jx (P := oP P) kk (Eq.trans (if_neg c5) (Eq.trans (if_pos c6) (Eq.trans (if_neg c7) (Eq.trans (if_neg c8) (Eq.trans (if_neg c9) (Eq.trans (if_pos c10) (Eq.trans (if_neg c11) (Eq.trans (if_neg c12) (if_pos c13)))))))))))) (fun c13 => V_pick [1, 2, 3, 4, 5, 7, 8, 9] rfl (V_X9_read_121_2  he hk (jx (P := oP P) kk (Eq.trans (if_neg c5) (Eq.trans (if_pos c6) (Eq.trans (if_neg c7) (Eq.trans (if_neg c8) (Eq.trans (if_neg c9) (Eq.trans (if_pos c10) (Eq.trans (if_neg c11) (Eq.trans (if_neg c12) (if_neg c13))))))))))))))) (fun c10 => V_iconst (tat ok_X9_read_1 (i := 15) (q := 98) rfl rfl) ic_3 <|
    V_goto (tat ok_X9_read_1 (i := 16) (q := 101) rfl rfl) rfl <|
    V_pick [1, 2, 3, 4, 5, 7, 8, 9] rfl (V_X9_read_126_2  he hk (jx (P := oP P) kk (Eq.trans (if_neg c5) (Eq.trans (if_pos c6) (Eq.trans (if_neg c7) (Eq.trans (if_neg c8) (Eq.trans (if_neg c9) (if_neg c10))))))))))) (fun c8 => V_iconst (tat ok_X9_read_1 (i := 7) (q := 84) rfl rfl) ic_1 <|
    V_goto (tat ok_X9_read_1 (i := 8) (q := 87) rfl rfl) rfl <|
    V_pick [1, 2, 3, 4, 5, 7, 8, 9] rfl (V_X9_read_126_2  he hk (jx (P := oP P) kk (Eq.trans (if_neg c5) (Eq.trans (if_pos c6) (Eq.trans (if_neg c7) (if_pos c8))))))))))
def F_X9_read_184_1 (I : WI) (L : WL) (a1 : Int32) (a2 : Int32) (a3 : Int32) (a4 : Int32) (a5 : Int32) (a6 : Int32) (a7 : Int32) : Option (((Int32 × WI × WL) ⊕ (Int32 × Int32)) ⊕ (Int32 × Int32 × Int32)) :=
  some (.inr (a5, a6, (a7 + 1)))
theorem V_X9_read_184_1  {I : WI} {L : WL} {a1 : Int32} {a2 : Int32} {a3 : Int32} {a4 : Int32} {a5 : Int32} {a6 : Int32} {a7 : Int32} {P : (((Int32 × WI × WL) ⊕ (Int32 × Int32)) ⊕ (Int32 × Int32 × Int32)) → Prop} {t : Tg} (hr : ∀ v, P (.inl (.inl v)) → t = (some (.int (p1 v)), ly0, (p1 (p2 v)), (p2 (p2 v)), R0)) (he : ∀ x : (Int32 × Int32), P (.inl (.inr x)) → V (zM x_X9_read 4 0 0 t) 190 [(0, .ref 33), (1, .int a1), (2, .int a2), (3, .int a3), (4, .int a4), (5, .int (p1 x)), (6, .int (p2 x))] [] ly0 I L R0 0 0) (hk : ∀ x : (Int32 × Int32 × Int32), P (.inr x) → V (zM x_X9_read 4 0 0 t) 32 [(0, .ref 33), (1, .int a1), (2, .int a2), (3, .int a3), (4, .int a4), (5, .int (p1 x)), (6, .int (p1 (p2 x))), (7, .int (p2 (p2 x)))] [] ly0 I L R0 0 0) (kk : oP P (F_X9_read_184_1 I L a1 a2 a3 a4 a5 a6 a7)) : V (zM x_X9_read 4 0 0 t) 184 [(0, .ref 33), (1, .int a1), (2, .int a2), (3, .int a3), (4, .int a4), (5, .int a5), (6, .int a6), (7, .int a7)] [] ly0 I L R0 0 0 :=
  V_iinc (v := (a7 + 1)) (lv' := [(7, .int (a7 + 1)), (0, .ref 33), (1, .int a1), (2, .int a2), (3, .int a3), (4, .int a4), (5, .int a5), (6, .int a6)]) (tat ok_X9_read_2 (i := 25) (q := 187) rfl rfl) 7 rfl (ia ic_1) (Nat.le_of_ble_eq_true rfl) rfl <|
    V_goto (tat ok_X9_read_2 (i := 26) (q := 190) rfl rfl) rfl <|
    V_pick [1, 2, 3, 4, 5, 6, 7, 0] rfl (hk (a5, a6, (a7 + 1)) (jx (P := oP P) kk rfl))
def F_X9_read_134_1 (I : WI) (L : WL) (a1 : Int32) (a2 : Int32) (a3 : Int32) (a4 : Int32) (a5 : Int32) (a6 : Int32) (a7 : Int32) : Option (((Int32 × WI × WL) ⊕ (Int32 × Int32)) ⊕ (Int32 × Int32 × Int32)) :=
  (if a5 = 0 then (if (((40 * a1) + a3) + (2 * a7)) < 0 ∨ 160 ≤ Int32.toNatClampNeg (((40 * a1) + a3) + (2 * a7)) then none else (if ((((40 * a1) + a3) + (2 * a7)) + 1) < 0 ∨ 160 ≤ Int32.toNatClampNeg ((((40 * a1) + a3) + (2 * a7)) + 1) then none else (Option.bind (F_X9_isAct I (I 44 (Int32.toNatClampNeg (((40 * a1) + a3) + (2 * a7)))) (I 44 (Int32.toNatClampNeg ((((40 * a1) + a3) + (2 * a7)) + 1)))) (fun v17 => (if v17 = 0 then some (.inl (.inl (((-20) - a7), I, L))) else (F_X9_read_184_1 I L a1 a2 a3 a4 a5 (a6 + 1) a7)))))) else (F_X9_read_184_1 I L a1 a2 a3 a4 a5 a6 a7))
theorem V_X9_read_134_1  {I : WI} {L : WL} {a1 : Int32} {a2 : Int32} {a3 : Int32} {a4 : Int32} {a5 : Int32} {a6 : Int32} {a7 : Int32} {P : (((Int32 × WI × WL) ⊕ (Int32 × Int32)) ⊕ (Int32 × Int32 × Int32)) → Prop} {t : Tg} (hr : ∀ v, P (.inl (.inl v)) → t = (some (.int (p1 v)), ly0, (p1 (p2 v)), (p2 (p2 v)), R0)) (he : ∀ x : (Int32 × Int32), P (.inl (.inr x)) → V (zM x_X9_read 4 0 0 t) 190 [(0, .ref 33), (1, .int a1), (2, .int a2), (3, .int a3), (4, .int a4), (5, .int (p1 x)), (6, .int (p2 x))] [] ly0 I L R0 0 0) (hk : ∀ x : (Int32 × Int32 × Int32), P (.inr x) → V (zM x_X9_read 4 0 0 t) 32 [(0, .ref 33), (1, .int a1), (2, .int a2), (3, .int a3), (4, .int a4), (5, .int (p1 x)), (6, .int (p1 (p2 x))), (7, .int (p2 (p2 x)))] [] ly0 I L R0 0 0) (kk : oP P (F_X9_read_134_1 I L a1 a2 a3 a4 a5 a6 a7)) : V (zM x_X9_read 4 0 0 t) 134 [(0, .ref 33), (1, .int a1), (2, .int a2), (3, .int a3), (4, .int a4), (5, .int a5), (6, .int a6), (7, .int a7)] [] ly0 I L R0 0 0 :=
  V_iload (tat ok_X9_read_1 (i := 35) (q := 136) rfl rfl) 5 rfl <|
    V_if_ne (tat ok_X9_read_1 (i := 36) (q := 139) rfl rfl) rfl (fun c14 => V_X9_read_184_1  hr he hk (jx (P := oP P) kk (if_neg c14))) (fun c14 => V_bipush (tat ok_X9_read_1 (i := 37) (q := 141) rfl rfl) bp_40 <|
    V_iload_n (tat ok_X9_read_1 (i := 38) (q := 142) rfl rfl) 1 rfl rfl <|
    V_imul (tat ok_X9_read_1 (i := 39) (q := 143) rfl rfl) <|
    V_iload_n (tat ok_X9_read_2 (i := 0) (q := 144) rfl rfl) 3 rfl rfl <|
    V_iadd (tat ok_X9_read_2 (i := 1) (q := 145) rfl rfl) <|
    V_iconst (tat ok_X9_read_2 (i := 2) (q := 146) rfl rfl) ic_2 <|
    V_iload (tat ok_X9_read_2 (i := 3) (q := 148) rfl rfl) 7 rfl <|
    V_imul (tat ok_X9_read_2 (i := 4) (q := 149) rfl rfl) <|
    V_iadd (tat ok_X9_read_2 (i := 5) (q := 150) rfl rfl) <|
    V_istore (lv' := [(8, .int (((40 * a1) + a3) + (2 * a7))), (0, .ref 33), (1, .int a1), (2, .int a2), (3, .int a3), (4, .int a4), (5, .int a5), (6, .int a6), (7, .int a7)]) (tat ok_X9_read_2 (i := 6) (q := 152) rfl rfl) (Nat.le_of_ble_eq_true rfl) rfl <|
    V_aload_n (tat ok_X9_read_2 (i := 7) (q := 153) rfl rfl) 1 rfl rfl <|
    V_aload_n (tat ok_X9_read_2 (i := 8) (q := 154) rfl rfl) 1 rfl rfl <|
    V_getR (tat ok_X9_read_2 (i := 9) (q := 157) rfl rfl) fk_X9_41 rfl rfl <|
    V_iload (tat ok_X9_read_2 (i := 10) (q := 159) rfl rfl) 0 rfl <|
    (if c15 : (((40 * a1) + a3) + (2 * a7)) < 0 ∨ 160 ≤ Int32.toNatClampNeg (((40 * a1) + a3) + (2 * a7)) then ((jx (P := oP P) kk (Eq.trans (if_pos c14) (if_pos c15)))).elim else V_iald (tat ok_X9_read_2 (i := 11) (q := 160) rfl rfl) rfl c15 <|
    V_aload_n (tat ok_X9_read_2 (i := 12) (q := 161) rfl rfl) 1 rfl rfl <|
    V_getR (tat ok_X9_read_2 (i := 13) (q := 164) rfl rfl) fk_X9_41 rfl rfl <|
    V_iload (tat ok_X9_read_2 (i := 14) (q := 166) rfl rfl) 0 rfl <|
    V_iconst (tat ok_X9_read_2 (i := 15) (q := 167) rfl rfl) ic_1 <|
    V_iadd (tat ok_X9_read_2 (i := 16) (q := 168) rfl rfl) <|
    (if c16 : ((((40 * a1) + a3) + (2 * a7)) + 1) < 0 ∨ 160 ≤ Int32.toNatClampNeg ((((40 * a1) + a3) + (2 * a7)) + 1) then ((jx (P := oP P) kk (Eq.trans (if_pos c14) (Eq.trans (if_neg c15) (if_pos c16))))).elim else V_iald (tat ok_X9_read_2 (i := 17) (q := 169) rfl rfl) rfl c16 <|
    oP_case (jx (P := oP P) kk (Eq.trans (if_pos c14) (Eq.trans (if_neg c15) (if_neg c16)))) (fun v17 e17 _ => V_cv2 (ct_X9_isAct I L (I 44 (Int32.toNatClampNeg (((40 * a1) + a3) + (2 * a7)))) (I 44 (Int32.toNatClampNeg ((((40 * a1) + a3) + (2 * a7)) + 1)))  e17) mo_X9_isAct (tat ok_X9_read_2 (i := 18) (q := 172) rfl rfl) ml_X9_214 rfl ⟨by decide, _, rfl, rfl⟩ ⟨(Nat.le_of_ble_eq_true rfl), (Nat.le_of_ble_eq_true rfl)⟩ ⟨(Nat.le_of_ble_eq_true rfl), (Nat.le_of_ble_eq_true rfl)⟩ (Nat.le_of_ble_eq_true rfl) <|
    V_if_ne (tat ok_X9_read_2 (i := 19) (q := 175) rfl rfl) rfl (fun c18 => V_iinc (v := (a6 + 1)) (lv' := [(6, .int (a6 + 1)), (8, .int (((40 * a1) + a3) + (2 * a7))), (0, .ref 33), (1, .int a1), (2, .int a2), (3, .int a3), (4, .int a4), (5, .int a5), (7, .int a7)]) (tat ok_X9_read_2 (i := 24) (q := 184) rfl rfl) 7 rfl (ia ic_1) (Nat.le_of_ble_eq_true rfl) rfl <|
    V_pick [2, 3, 4, 5, 6, 7, 0, 8] rfl (V_X9_read_184_1  hr he hk (jx (P := oP P) kk (Eq.trans (if_pos c14) (Eq.trans (if_neg c15) (Eq.trans (if_neg c16) (Eq.trans (ob e17) (if_neg c18)))))))) (fun c18 => V_bipush (tat ok_X9_read_2 (i := 20) (q := 177) rfl rfl) bp_m20 <|
    V_iload (tat ok_X9_read_2 (i := 21) (q := 179) rfl rfl) 8 rfl <|
    V_isub (tat ok_X9_read_2 (i := 22) (q := 180) rfl rfl) <|
    V_iret (tat ok_X9_read_2 (i := 23) (q := 181) rfl rfl) _ rfl (nar_int _) (hr (((-20) - a7), I, L) (jx (P := oP P) kk (Eq.trans (if_pos c14) (Eq.trans (if_neg c15) (Eq.trans (if_neg c16) (Eq.trans (ob e17) (if_pos c18))))))) ⟨(Nat.le_of_ble_eq_true rfl), (Nat.le_of_ble_eq_true rfl)⟩)))))
