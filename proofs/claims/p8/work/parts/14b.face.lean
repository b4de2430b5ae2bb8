theorem ct_X8_act  (I : WI) (L : WL) (a1 : Int32) (a2 : Int32)  : Ct x_X8_act 4 [.ref 0, .int a1, .int a2] ly0 I L R0 0 0 (some (.int (p1 (F_X8_act I L a1 a2))), ly0, I, (p2 (F_X8_act I L a1 a2)), R0) :=
  Ct_of_V mo_X8_act.1 (Nat.le_of_ble_eq_true rfl) (V_X8_act (P := fun x => x = (F_X8_act I L a1 a2))  (fun _ e => by rw [e]) rfl)
def F_X8_turn_30 (I : WI) (L : WL) (a1 : Int32) (a2 : Int32) : (Int32 × WL) :=
  ((-1), L)
theorem V_X8_turn_30  {I : WI} {L : WL} {a1 : Int32} {a2 : Int32}  {P : (Int32 × WL) → Prop} {t : Tg} (hr : ∀ v, P v → t = (some (.int (p1 v)), ly0, I, (p2 v), R0)) (kk : P (F_X8_turn_30 I L a1 a2)) : V (zM x_X8_turn 5 0 0 t) 30 [(0, .ref 0), (1, .int a1), (2, .int a2)] [] ly0 I L R0 0 0 :=
  V_iconst (tat ok_X8_turn_0 (i := 14) (q := 31) rfl rfl) ic_m1 <|
    V_iret (tat ok_X8_turn_0 (i := 15) (q := 32) rfl rfl) _ rfl (nar_int _) (hr ((-1), L) (jx (P := P) kk rfl)) ⟨(Nat.le_of_ble_eq_true rfl), (Nat.le_of_ble_eq_true rfl)⟩
def F_X8_turn (I : WI) (L : WL) (a1 : Int32) (a2 : Int32) : (Int32 × WL) :=
  (if a1 < 0 then (F_X8_turn_30 I L a1 a2) else (if (F_X0_everyRow I 1) < a1 then (F_X8_turn_30 I L a1 a2) else (if a2 < 0 then (F_X8_turn_30 I L a1 a2) else (if a2 ≤ (F_X0_everyColumn I 1) then ((F_X0_darkSquares (u2 L 1 3 ((L 1 3) ^^^ (F_X0_squaresTurned I 1 a1 a2))) 1), (u2 L 1 3 ((L 1 3) ^^^ (F_X0_squaresTurned I 1 a1 a2)))) else (F_X8_turn_30 I L a1 a2)))))
theorem V_X8_turn  {I : WI} {L : WL} {a1 : Int32} {a2 : Int32}  {P : (Int32 × WL) → Prop} {t : Tg} (hr : ∀ v, P v → t = (some (.int (p1 v)), ly0, I, (p2 v), R0)) (kk : P (F_X8_turn I L a1 a2)) : V (zM x_X8_turn 5 0 0 t) 0 [(0, .ref 0), (1, .int a1), (2, .int a2)] [] ly0 I L R0 0 0 :=
  V_iload_n (tat ok_X8_turn_0 (i := 0) (q := 1) rfl rfl) 1 rfl rfl <|
    V_if_lt (tat ok_X8_turn_0 (i := 1) (q := 4) rfl rfl) rfl (fun c1 => V_X8_turn_30  hr (jx (P := P) kk (if_pos c1))) (fun c1 => V_iload_n (tat ok_X8_turn_0 (i := 2) (q := 5) rfl rfl) 1 rfl rfl <|
    V_aload_n (tat ok_X8_turn_0 (i := 3) (q := 6) rfl rfl) 0 rfl rfl <|
    V_getR (tat ok_X8_turn_0 (i := 4) (q := 9) rfl rfl) fk_X8_14 rfl rfl <|
    V_cv0 (ct_X0_everyRow I L 1 rfl) mo_X0_everyRow (tat ok_X8_turn_0 (i := 5) (q := 12) rfl rfl) ml_X8_162 rfl ⟨by decide, _, rfl, rfl⟩ ⟨(Nat.le_of_ble_eq_true rfl), (Nat.le_of_ble_eq_true rfl)⟩ ⟨(Nat.le_of_ble_eq_true rfl), (Nat.le_of_ble_eq_true rfl)⟩ (Nat.le_of_ble_eq_true rfl) <|
    V_icmp_gt (tat ok_X8_turn_0 (i := 6) (q := 15) rfl rfl) rfl (fun c2 => V_X8_turn_30  hr (jx (P := P) kk (Eq.trans (if_neg c1) (if_pos c2)))) (fun c2 => V_iload_n (tat ok_X8_turn_0 (i := 7) (q := 16) rfl rfl) 2 rfl rfl <|
    V_if_lt (tat ok_X8_turn_0 (i := 8) (q := 19) rfl rfl) rfl (fun c3 => V_X8_turn_30  hr (jx (P := P) kk (Eq.trans (if_neg c1) (Eq.trans (if_neg c2) (if_pos c3))))) (fun c3 => V_iload_n (tat ok_X8_turn_0 (i := 9) (q := 20) rfl rfl) 2 rfl rfl <|
    V_aload_n (tat ok_X8_turn_0 (i := 10) (q := 21) rfl rfl) 0 rfl rfl <|
    V_getR (tat ok_X8_turn_0 (i := 11) (q := 24) rfl rfl) fk_X8_14 rfl rfl <|
    V_cv0 (ct_X0_everyColumn I L 1 rfl) mo_X0_everyColumn (tat ok_X8_turn_0 (i := 12) (q := 27) rfl rfl) ml_X8_165 rfl ⟨by decide, _, rfl, rfl⟩ ⟨(Nat.le_of_ble_eq_true rfl), (Nat.le_of_ble_eq_true rfl)⟩ ⟨(Nat.le_of_ble_eq_true rfl), (Nat.le_of_ble_eq_true rfl)⟩ (Nat.le_of_ble_eq_true rfl) <|
    V_icmp_le (tat ok_X8_turn_0 (i := 13) (q := 30) rfl rfl) rfl (fun c4 => V_aload_n (tat ok_X8_turn_0 (i := 16) (q := 33) rfl rfl) 0 rfl rfl <|
    V_getR (tat ok_X8_turn_0 (i := 17) (q := 36) rfl rfl) fk_X8_14 rfl rfl <|
    V_dup (tat ok_X8_turn_0 (i := 18) (q := 37) rfl rfl) rfl <|
    V_getL (tat ok_X8_turn_0 (i := 19) (q := 40) rfl rfl) fk_X8_137 rfl <|
    V_aload_n (tat ok_X8_turn_0 (i := 20) (q := 41) rfl rfl) 0 rfl rfl <|
    V_getR (tat ok_X8_turn_0 (i := 21) (q := 44) rfl rfl) fk_X8_14 rfl rfl <|
    V_iload_n (tat ok_X8_turn_0 (i := 22) (q := 45) rfl rfl) 1 rfl rfl <|
    V_iload_n (tat ok_X8_turn_0 (i := 23) (q := 46) rfl rfl) 2 rfl rfl <|
    V_cv2 (ct_X0_squaresTurned I L 1 a1 a2 rfl) mo_X0_squaresTurned (tat ok_X8_turn_0 (i := 24) (q := 49) rfl rfl) ml_X8_168 rfl ⟨by decide, _, rfl, rfl⟩ ⟨(Nat.le_of_ble_eq_true rfl), (Nat.le_of_ble_eq_true rfl)⟩ ⟨(Nat.le_of_ble_eq_true rfl), (Nat.le_of_ble_eq_true rfl)⟩ (Nat.le_of_ble_eq_true rfl) <|
    V_lxor (tat ok_X8_turn_0 (i := 25) (q := 50) rfl rfl) <|
    V_putL (tat ok_X8_turn_0 (i := 26) (q := 53) rfl rfl) fk_X8_137 rfl rfl <|
    V_aload_n (tat ok_X8_turn_0 (i := 27) (q := 54) rfl rfl) 0 rfl rfl <|
    V_getR (tat ok_X8_turn_0 (i := 28) (q := 57) rfl rfl) fk_X8_14 rfl rfl <|
    V_cv0 (ct_X0_darkSquares I (u2 L 1 3 ((L 1 3) ^^^ (F_X0_squaresTurned I 1 a1 a2))) 1 rfl) mo_X0_darkSquares (tat ok_X8_turn_0 (i := 29) (q := 60) rfl rfl) ml_X8_159 rfl ⟨by decide, _, rfl, rfl⟩ ⟨(Nat.le_of_ble_eq_true rfl), (Nat.le_of_ble_eq_true rfl)⟩ ⟨(Nat.le_of_ble_eq_true rfl), (Nat.le_of_ble_eq_true rfl)⟩ (Nat.le_of_ble_eq_true rfl) <|
    V_iret (tat ok_X8_turn_0 (i := 30) (q := 61) rfl rfl) _ rfl (nar_int _) (hr ((F_X0_darkSquares (u2 L 1 3 ((L 1 3) ^^^ (F_X0_squaresTurned I 1 a1 a2))) 1), (u2 L 1 3 ((L 1 3) ^^^ (F_X0_squaresTurned I 1 a1 a2)))) (jx (P := P) kk (Eq.trans (if_neg c1) (Eq.trans (if_neg c2) (Eq.trans (if_neg c3) (if_pos c4)))))) ⟨(Nat.le_of_ble_eq_true rfl), (Nat.le_of_ble_eq_true rfl)⟩) (fun c4 => V_X8_turn_30  hr (jx (P := P) kk (Eq.trans (if_neg c1) (Eq.trans (if_neg c2) (Eq.trans (if_neg c3) (if_neg c4)))))))))
theorem ct_X8_turn  (I : WI) (L : WL) (a1 : Int32) (a2 : Int32)  : Ct x_X8_turn 5 [.ref 0, .int a1, .int a2] ly0 I L R0 0 0 (some (.int (p1 (F_X8_turn I L a1 a2))), ly0, I, (p2 (F_X8_turn I L a1 a2)), R0) :=
  Ct_of_V mo_X8_turn.1 (Nat.le_of_ble_eq_true rfl) (V_X8_turn (P := fun x => x = (F_X8_turn I L a1 a2))  (fun _ e => by rw [e]) rfl)
def F_X8_go_15 (I : WI) (L : WL) (a1 : Int32) : (Int32 × WL) :=
  ((-1), L)
theorem V_X8_go_15  {I : WI} {L : WL} {a1 : Int32}  {P : (Int32 × WL) → Prop} {t : Tg} (hr : ∀ v, P v → t = (some (.int (p1 v)), ly0, I, (p2 v), R0)) (kk : P (F_X8_go_15 I L a1)) : V (zM x_X8_go 4 0 0 t) 15 [(0, .ref 0), (1, .int a1)] [] ly0 I L R0 0 0 :=
  V_iconst (tat ok_X8_go_0 (i := 7) (q := 16) rfl rfl) ic_m1 <|
    V_iret (tat ok_X8_go_0 (i := 8) (q := 17) rfl rfl) _ rfl (nar_int _) (hr ((-1), L) (jx (P := P) kk rfl)) ⟨(Nat.le_of_ble_eq_true rfl), (Nat.le_of_ble_eq_true rfl)⟩
def F_X8_go_38_2 (I : WI) (L : WL) (a1 : Int32) (a2 : Int32) (a3 : Int32) : WL :=
  (u2 L 1 3 ((L 1 3) ^^^ (F_X0_squaresOf I 1 (F_X1_kindOf I 6 a2 a3) (F_X1_numberOf I 6 a2 a3))))
theorem V_X8_go_38_2  {I : WI} {L : WL} {a1 : Int32} {a2 : Int32} {a3 : Int32}  {P : WL → Prop} {t : Tg} (hk : ∀ x : WL, P x → V (zM x_X8_go 4 0 0 t) 26 [(0, .ref 0), (1, .int a1), (2, .int a2), (3, .int (a3 + 1))] [] ly0 I x R0 0 0) (kk : P (F_X8_go_38_2 I L a1 a2 a3)) : V (zM x_X8_go 4 0 0 t) 38 [(0, .ref 0), (1, .int a1), (2, .int a2), (3, .int a3)] [] ly0 I L R0 0 0 :=
  V_aload_n (tat ok_X8_go_0 (i := 22) (q := 39) rfl rfl) 0 rfl rfl <|
    V_getR (tat ok_X8_go_0 (i := 23) (q := 42) rfl rfl) fk_X8_14 rfl rfl <|
    V_dup (tat ok_X8_go_0 (i := 24) (q := 43) rfl rfl) rfl <|
    V_getL (tat ok_X8_go_0 (i := 25) (q := 46) rfl rfl) fk_X8_137 rfl <|
    V_aload_n (tat ok_X8_go_0 (i := 26) (q := 47) rfl rfl) 0 rfl rfl <|
    V_getR (tat ok_X8_go_0 (i := 27) (q := 50) rfl rfl) fk_X8_14 rfl rfl <|
    V_aload_n (tat ok_X8_go_0 (i := 28) (q := 51) rfl rfl) 0 rfl rfl <|
    V_getR (tat ok_X8_go_0 (i := 29) (q := 54) rfl rfl) fk_X8_33 rfl rfl <|
    V_iload_n (tat ok_X8_go_0 (i := 30) (q := 55) rfl rfl) 2 rfl rfl <|
    V_iload_n (tat ok_X8_go_0 (i := 31) (q := 56) rfl rfl) 3 rfl rfl <|
    V_cv2 (ct_X1_kindOf I L 6 a2 a3 (⟨rfl, rfl, rfl, rfl, rfl⟩)) mo_X1_kindOf (tat ok_X8_go_0 (i := 32) (q := 59) rfl rfl) ml_X8_171 rfl ⟨by decide, _, rfl, rfl⟩ ⟨(Nat.le_of_ble_eq_true rfl), (Nat.le_of_ble_eq_true rfl)⟩ ⟨(Nat.le_of_ble_eq_true rfl), (Nat.le_of_ble_eq_true rfl)⟩ (Nat.le_of_ble_eq_true rfl) <|
    V_aload_n (tat ok_X8_go_0 (i := 33) (q := 60) rfl rfl) 0 rfl rfl <|
    V_getR (tat ok_X8_go_0 (i := 34) (q := 63) rfl rfl) fk_X8_33 rfl rfl <|
    V_iload_n (tat ok_X8_go_0 (i := 35) (q := 64) rfl rfl) 2 rfl rfl <|
    V_iload_n (tat ok_X8_go_0 (i := 36) (q := 65) rfl rfl) 3 rfl rfl <|
    V_cv2 (ct_X1_numberOf I L 6 a2 a3 (⟨rfl, rfl, rfl, rfl, rfl⟩)) mo_X1_numberOf (tat ok_X8_go_0 (i := 37) (q := 68) rfl rfl) ml_X8_174 rfl ⟨by decide, _, rfl, rfl⟩ ⟨(Nat.le_of_ble_eq_true rfl), (Nat.le_of_ble_eq_true rfl)⟩ ⟨(Nat.le_of_ble_eq_true rfl), (Nat.le_of_ble_eq_true rfl)⟩ (Nat.le_of_ble_eq_true rfl) <|
    V_cv2 (ct_X0_squaresOf I L 1 (F_X1_kindOf I 6 a2 a3) (F_X1_numberOf I 6 a2 a3) rfl) mo_X0_squaresOf (tat ok_X8_go_0 (i := 38) (q := 71) rfl rfl) ml_X8_155 rfl ⟨by decide, _, rfl, rfl⟩ ⟨(Nat.le_of_ble_eq_true rfl), (Nat.le_of_ble_eq_true rfl)⟩ ⟨(Nat.le_of_ble_eq_true rfl), (Nat.le_of_ble_eq_true rfl)⟩ (Nat.le_of_ble_eq_true rfl) <|
    V_lxor (tat ok_X8_go_0 (i := 39) (q := 72) rfl rfl) <|
    V_putL (tat ok_X8_go_1 (i := 0) (q := 75) rfl rfl) fk_X8_137 rfl rfl <|
    V_iinc (v := (a3 + 1)) (lv' := [(3, .int (a3 + 1)), (0, .ref 0), (1, .int a1), (2, .int a2)]) (tat ok_X8_go_1 (i := 1) (q := 78) rfl rfl) 3 rfl (ia ic_1) (Nat.le_of_ble_eq_true rfl) rfl <|
    V_goto (tat ok_X8_go_1 (i := 2) (q := 81) rfl rfl) rfl <|
    V_pick [1, 2, 3, 0] rfl (hk (u2 L 1 3 ((L 1 3) ^^^ (F_X0_squaresOf I 1 (F_X1_kindOf I 6 a2 a3) (F_X1_numberOf I 6 a2 a3)))) (jx (P := P) kk rfl))
def F_X8_go_81_1 (I : WI) (L : WL) (a1 : Int32) (a2 : Int32) : WL :=
  L
theorem V_X8_go_81_1  {I : WI} {L : WL} {a1 : Int32} {a2 : Int32}  {P : WL → Prop} {t : Tg} (hk : ∀ x : WL, P x → V (zM x_X8_go 4 0 0 t) 19 [(0, .ref 0), (1, .int a1), (2, .int (a2 + 1))] [] ly0 I x R0 0 0) (kk : P (F_X8_go_81_1 I L a1 a2)) : V (zM x_X8_go 4 0 0 t) 81 [(0, .ref 0), (1, .int a1), (2, .int a2)] [] ly0 I L R0 0 0 :=
  V_iinc (v := (a2 + 1)) (lv' := [(2, .int (a2 + 1)), (0, .ref 0), (1, .int a1)]) (tat ok_X8_go_1 (i := 3) (q := 84) rfl rfl) 2 rfl (ia ic_1) (Nat.le_of_ble_eq_true rfl) rfl <|
    V_goto (tat ok_X8_go_1 (i := 4) (q := 87) rfl rfl) rfl <|
    V_pick [1, 2, 0] rfl (hk L (jx (P := P) kk rfl))
def F_X8_go_26_1 (I : WI) (L : WL) (a1 : Int32) (a2 : Int32) (a3 : Int32) : WL :=
  (fun q : Int32 × WL => (F_X8_go_81_1 I (p2 q) a1 a2)) (fr0 (fun i x => (F_X8_go_38_2 I x a1 a2 i)) (F_X1_actsOf I 6 a2) (fu a3 (F_X1_actsOf I 6 a2)) a3 L)
theorem V_X8_go_26_1  {I : WI} {L : WL} {a1 : Int32} {a2 : Int32} {a3 : Int32} {P : WL → Prop} {t : Tg} (hb3 : bz a3 = a3) (hk : ∀ x : WL, P x → V (zM x_X8_go 4 0 0 t) 19 [(0, .ref 0), (1, .int a1), (2, .int (a2 + 1))] [] ly0 I x R0 0 0) (kk : P (F_X8_go_26_1 I L a1 a2 a3)) : V (zM x_X8_go 4 0 0 t) 26 [(0, .ref 0), (1, .int a1), (2, .int a2), (3, .int a3)] [] ly0 I L R0 0 0 :=
  V_fr0 (fun i x => (F_X8_go_38_2 I x a1 a2 i)) (F_X1_actsOf I 6 a2) (fun i x => V (zM x_X8_go 4 0 0 t) 26 [(0, .ref 0), (1, .int a1), (2, .int a2), (3, .int i)] [] ly0 I x R0 0 0) (fun i x => P ((F_X8_go_81_1 I x a1 a2))) (c := a3) (s := L) (fun i x kx kb => V_iload_n (tat ok_X8_go_0 (i := 16) (q := 27) rfl rfl) 3 rfl rfl <|
    V_aload_n (tat ok_X8_go_0 (i := 17) (q := 28) rfl rfl) 0 rfl rfl <|
    V_getR (tat ok_X8_go_0 (i := 18) (q := 31) rfl rfl) fk_X8_33 rfl rfl <|
    V_iload_n (tat ok_X8_go_0 (i := 19) (q := 32) rfl rfl) 2 rfl rfl <|
    V_cv1 (ct_X1_actsOf I x 6 a2 (⟨rfl, rfl, rfl, rfl, rfl⟩)) mo_X1_actsOf (tat ok_X8_go_0 (i := 20) (q := 35) rfl rfl) ml_X8_130 rfl ⟨by decide, _, rfl, rfl⟩ ⟨(Nat.le_of_ble_eq_true rfl), (Nat.le_of_ble_eq_true rfl)⟩ ⟨(Nat.le_of_ble_eq_true rfl), (Nat.le_of_ble_eq_true rfl)⟩ (Nat.le_of_ble_eq_true rfl) <|
    V_icmp_ge (tat ok_X8_go_0 (i := 21) (q := 38) rfl rfl) rfl (fun c0 => V_pick [0, 1, 2] rfl (V_X8_go_81_1  hk (kx c0))) (fun c0 => V_X8_go_38_2 (P := (fun x => (fun i x => V (zM x_X8_go 4 0 0 t) 26 [(0, .ref 0), (1, .int a1), (2, .int a2), (3, .int i)] [] ly0 I x R0 0 0) (i + 1) x))  (fun _ e => e) (kb c0))) kk
def F_X8_go_24_1 (I : WI) (L : WL) (a1 : Int32) (a2 : Int32) : WL :=
  (F_X8_go_26_1 I L a1 a2 0)
theorem V_X8_go_24_1  {I : WI} {L : WL} {a1 : Int32} {a2 : Int32}  {P : WL → Prop} {t : Tg} (hk : ∀ x : WL, P x → V (zM x_X8_go 4 0 0 t) 19 [(0, .ref 0), (1, .int a1), (2, .int (a2 + 1))] [] ly0 I x R0 0 0) (kk : P (F_X8_go_24_1 I L a1 a2)) : V (zM x_X8_go 4 0 0 t) 24 [(0, .ref 0), (1, .int a1), (2, .int a2)] [] ly0 I L R0 0 0 :=
  V_iconst (tat ok_X8_go_0 (i := 14) (q := 25) rfl rfl) ic_0 <|
    V_istore_n (lv' := [(3, .int 0), (0, .ref 0), (1, .int a1), (2, .int a2)]) (tat ok_X8_go_0 (i := 15) (q := 26) rfl rfl) rfl (Nat.le_of_ble_eq_true rfl) rfl <|
    V_pick [1, 2, 3, 0] rfl (V_X8_go_26_1 rfl hk (jx (P := P) kk rfl))
def F_X8_go_87 (I : WI) (L : WL) (a1 : Int32) : (Int32 × WL) :=
  ((F_X0_darkSquares L 1), L)
theorem V_X8_go_87  {I : WI} {L : WL} {a1 : Int32}  {P : (Int32 × WL) → Prop} {t : Tg} (hr : ∀ v, P v → t = (some (.int (p1 v)), ly0, I, (p2 v), R0)) (kk : P (F_X8_go_87 I L a1)) : V (zM x_X8_go 4 0 0 t) 87 [(0, .ref 0), (1, .int a1)] [] ly0 I L R0 0 0 :=
  V_aload_n (tat ok_X8_go_1 (i := 5) (q := 88) rfl rfl) 0 rfl rfl <|
    V_getR (tat ok_X8_go_1 (i := 6) (q := 91) rfl rfl) fk_X8_14 rfl rfl <|
    V_cv0 (ct_X0_darkSquares I L 1 rfl) mo_X0_darkSquares (tat ok_X8_go_1 (i := 7) (q := 94) rfl rfl) ml_X8_159 rfl ⟨by decide, _, rfl, rfl⟩ ⟨(Nat.le_of_ble_eq_true rfl), (Nat.le_of_ble_eq_true rfl)⟩ ⟨(Nat.le_of_ble_eq_true rfl), (Nat.le_of_ble_eq_true rfl)⟩ (Nat.le_of_ble_eq_true rfl) <|
    V_iret (tat ok_X8_go_1 (i := 8) (q := 95) rfl rfl) _ rfl (nar_int _) (hr ((F_X0_darkSquares L 1), L) (jx (P := P) kk rfl)) ⟨(Nat.le_of_ble_eq_true rfl), (Nat.le_of_ble_eq_true rfl)⟩
def F_X8_go_19 (I : WI) (L : WL) (a1 : Int32) (a2 : Int32) : (Int32 × WL) :=
  (fun q : Int32 × WL => (F_X8_go_87 I (p2 q) a1)) (fr0 (fun i x => (F_X8_go_24_1 I x a1 i)) a1 (fu a2 a1) a2 L)
theorem V_X8_go_19  {I : WI} {L : WL} {a1 : Int32} {a2 : Int32} {P : (Int32 × WL) → Prop} {t : Tg} (hb2 : bz a2 = a2) (hr : ∀ v, P v → t = (some (.int (p1 v)), ly0, I, (p2 v), R0)) (kk : P (F_X8_go_19 I L a1 a2)) : V (zM x_X8_go 4 0 0 t) 19 [(0, .ref 0), (1, .int a1), (2, .int a2)] [] ly0 I L R0 0 0 :=
  V_fr0 (fun i x => (F_X8_go_24_1 I x a1 i)) a1 (fun i x => V (zM x_X8_go 4 0 0 t) 19 [(0, .ref 0), (1, .int a1), (2, .int i)] [] ly0 I x R0 0 0) (fun i x => P ((F_X8_go_87 I x a1))) (c := a2) (s := L) (fun i x kx kb => V_iload_n (tat ok_X8_go_0 (i := 11) (q := 20) rfl rfl) 2 rfl rfl <|
    V_iload_n (tat ok_X8_go_0 (i := 12) (q := 21) rfl rfl) 1 rfl rfl <|
    V_icmp_ge (tat ok_X8_go_0 (i := 13) (q := 24) rfl rfl) rfl (fun c0 => V_pick [0, 1] rfl (V_X8_go_87  hr (kx c0))) (fun c0 => V_X8_go_24_1 (P := (fun x => (fun i x => V (zM x_X8_go 4 0 0 t) 19 [(0, .ref 0), (1, .int a1), (2, .int i)] [] ly0 I x R0 0 0) (i + 1) x))  (fun _ e => e) (kb c0))) kk
def F_X8_go (I : WI) (L : WL) (a1 : Int32) : (Int32 × WL) :=
  (if a1 < 0 then (F_X8_go_15 I L a1) else (if a1 ≤ (I 6 0) then (F_X8_go_19 I L a1 0) else (F_X8_go_15 I L a1)))
theorem V_X8_go  {I : WI} {L : WL} {a1 : Int32}  {P : (Int32 × WL) → Prop} {t : Tg} (hr : ∀ v, P v → t = (some (.int (p1 v)), ly0, I, (p2 v), R0)) (kk : P (F_X8_go I L a1)) : V (zM x_X8_go 4 0 0 t) 0 [(0, .ref 0), (1, .int a1)] [] ly0 I L R0 0 0 :=
  V_iload_n (tat ok_X8_go_0 (i := 0) (q := 1) rfl rfl) 1 rfl rfl <|
    V_if_lt (tat ok_X8_go_0 (i := 1) (q := 4) rfl rfl) rfl (fun c1 => V_X8_go_15  hr (jx (P := P) kk (if_pos c1))) (fun c1 => V_iload_n (tat ok_X8_go_0 (i := 2) (q := 5) rfl rfl) 1 rfl rfl <|
    V_aload_n (tat ok_X8_go_0 (i := 3) (q := 6) rfl rfl) 0 rfl rfl <|
    V_getR (tat ok_X8_go_0 (i := 4) (q := 9) rfl rfl) fk_X8_33 rfl rfl <|
    V_getI (tat ok_X8_go_0 (i := 5) (q := 12) rfl rfl) fk_X8_123 rfl <|
    V_icmp_le (tat ok_X8_go_0 (i := 6) (q := 15) rfl rfl) rfl (fun c2 => V_iconst (tat ok_X8_go_0 (i := 9) (q := 18) rfl rfl) ic_0 <|
    V_istore_n (lv' := [(2, .int 0), (0, .ref 0), (1, .int a1)]) (tat ok_X8_go_0 (i := 10) (q := 19) rfl rfl) rfl (Nat.le_of_ble_eq_true rfl) rfl <|
    V_pick [1, 2, 0] rfl (V_X8_go_19 rfl hr (jx (P := P) kk (Eq.trans (if_neg c1) (if_pos c2))))) (fun c2 => V_X8_go_15  hr (jx (P := P) kk (Eq.trans (if_neg c1) (if_neg c2)))))
theorem ct_X8_go  (I : WI) (L : WL) (a1 : Int32)  : Ct x_X8_go 4 [.ref 0, .int a1] ly0 I L R0 0 0 (some (.int (p1 (F_X8_go I L a1))), ly0, I, (p2 (F_X8_go I L a1)), R0) :=
  Ct_of_V mo_X8_go.1 (Nat.le_of_ble_eq_true rfl) (V_X8_go (P := fun x => x = (F_X8_go I L a1))  (fun _ e => by rw [e]) rfl)
def F_X8_form_54 (I : WI) (L : WL) (a1 : Int32) (s0 : Int64) : Int64 :=
  s0
theorem V_X8_form_54  {I : WI} {L : WL} {a1 : Int32} {s0 : Int64} {P : Int64 → Prop} {t : Tg} (hr : ∀ v, P v → t = (some (.long v), ly0, I, L, R0)) (kk : P (F_X8_form_54 I L a1 s0)) : V (zM x_X8_form 6 0 0 t) 54 [(0, .ref 0), (1, .int a1)] [.long s0] ly0 I L R0 0 0 :=
  V_lret (tat ok_X8_form_0 (i := 24) (q := 55) rfl rfl) rfl (hr s0 (jx (P := P) kk rfl)) ⟨(Nat.le_of_ble_eq_true rfl), (Nat.le_of_ble_eq_true rfl)⟩
def F_X8_form_51 (I : WI) (L : WL) (a1 : Int32) : Int64 :=
  (F_X8_form_54 I L a1 (-1))
theorem V_X8_form_51  {I : WI} {L : WL} {a1 : Int32}  {P : Int64 → Prop} {t : Tg} (hr : ∀ v, P v → t = (some (.long v), ly0, I, L, R0)) (kk : P (F_X8_form_51 I L a1)) : V (zM x_X8_form 6 0 0 t) 51 [(0, .ref 0), (1, .int a1)] [] ly0 I L R0 0 0 :=
  V_ldc2 (tat ok_X8_form_0 (i := 23) (q := 54) rfl rfl) (gw_in kl_X8_181 rfl) <|
    V_X8_form_54  hr (jx (P := P) kk rfl)
def F_X8_form (I : WI) (L : WL) (a1 : Int32) : Int64 :=
  (if a1 = 0 then (F_X0_formOf I 1 (L 1 3)) else (if a1 = 1 then (if (bz (I 2 0)) = 0 then (F_X8_form_51 I L a1) else (F_X8_form_54 I L a1 (F_X0_formOf I 2 (L 2 3)))) else (F_X8_form_51 I L a1)))
theorem V_X8_form  {I : WI} {L : WL} {a1 : Int32}  {P : Int64 → Prop} {t : Tg} (hr : ∀ v, P v → t = (some (.long v), ly0, I, L, R0)) (kk : P (F_X8_form I L a1)) : V (zM x_X8_form 6 0 0 t) 0 [(0, .ref 0), (1, .int a1)] [] ly0 I L R0 0 0 :=
  V_iload_n (tat ok_X8_form_0 (i := 0) (q := 1) rfl rfl) 1 rfl rfl <|
    V_if_ne (tat ok_X8_form_0 (i := 1) (q := 4) rfl rfl) rfl (fun c1 => V_iload_n (tat ok_X8_form_0 (i := 9) (q := 20) rfl rfl) 1 rfl rfl <|
    V_iconst (tat ok_X8_form_0 (i := 10) (q := 21) rfl rfl) ic_1 <|
    V_icmp_ne (tat ok_X8_form_0 (i := 11) (q := 24) rfl rfl) rfl (fun c2 => V_X8_form_51  hr (jx (P := P) kk (Eq.trans (if_neg c1) (if_neg c2)))) (fun c2 => V_aload_n (tat ok_X8_form_0 (i := 12) (q := 25) rfl rfl) 0 rfl rfl <|
    V_getR (tat ok_X8_form_0 (i := 13) (q := 28) rfl rfl) fk_X8_18 rfl rfl <|
    V_getZ (tat ok_X8_form_0 (i := 14) (q := 31) rfl rfl) fk_X8_106 rfl <|
    V_if_eq (tat ok_X8_form_0 (i := 15) (q := 34) rfl rfl) rfl (fun c3 => V_X8_form_51  hr (jx (P := P) kk (Eq.trans (if_neg c1) (Eq.trans (if_pos c2) (if_pos c3))))) (fun c3 => V_aload_n (tat ok_X8_form_0 (i := 16) (q := 35) rfl rfl) 0 rfl rfl <|
    V_getR (tat ok_X8_form_0 (i := 17) (q := 38) rfl rfl) fk_X8_18 rfl rfl <|
    V_aload_n (tat ok_X8_form_0 (i := 18) (q := 39) rfl rfl) 0 rfl rfl <|
    V_getR (tat ok_X8_form_0 (i := 19) (q := 42) rfl rfl) fk_X8_18 rfl rfl <|
    V_getL (tat ok_X8_form_0 (i := 20) (q := 45) rfl rfl) fk_X8_137 rfl <|
    V_cv1 (ct_X0_formOf I L 2 (L 2 3) rfl) mo_X0_formOf (tat ok_X8_form_0 (i := 21) (q := 48) rfl rfl) ml_X8_177 rfl ⟨by decide, _, rfl, rfl⟩ ⟨(Nat.le_of_ble_eq_true rfl), (Nat.le_of_ble_eq_true rfl)⟩ ⟨(Nat.le_of_ble_eq_true rfl), (Nat.le_of_ble_eq_true rfl)⟩ (Nat.le_of_ble_eq_true rfl) <|
    V_goto (tat ok_X8_form_0 (i := 22) (q := 51) rfl rfl) rfl <|
    V_X8_form_54  hr (jx (P := P) kk (Eq.trans (if_neg c1) (Eq.trans (if_pos c2) (if_neg c3))))))) (fun c1 => V_aload_n (tat ok_X8_form_0 (i := 2) (q := 5) rfl rfl) 0 rfl rfl <|
    V_getR (tat ok_X8_form_0 (i := 3) (q := 8) rfl rfl) fk_X8_14 rfl rfl <|
    V_aload_n (tat ok_X8_form_0 (i := 4) (q := 9) rfl rfl) 0 rfl rfl <|
    V_getR (tat ok_X8_form_0 (i := 5) (q := 12) rfl rfl) fk_X8_14 rfl rfl <|
    V_getL (tat ok_X8_form_0 (i := 6) (q := 15) rfl rfl) fk_X8_137 rfl <|
    V_cv1 (ct_X0_formOf I L 1 (L 1 3) rfl) mo_X0_formOf (tat ok_X8_form_0 (i := 7) (q := 18) rfl rfl) ml_X8_177 rfl ⟨by decide, _, rfl, rfl⟩ ⟨(Nat.le_of_ble_eq_true rfl), (Nat.le_of_ble_eq_true rfl)⟩ ⟨(Nat.le_of_ble_eq_true rfl), (Nat.le_of_ble_eq_true rfl)⟩ (Nat.le_of_ble_eq_true rfl) <|
    V_lret (tat ok_X8_form_0 (i := 8) (q := 19) rfl rfl) rfl (hr (F_X0_formOf I 1 (L 1 3)) (jx (P := P) kk (if_pos c1))) ⟨(Nat.le_of_ble_eq_true rfl), (Nat.le_of_ble_eq_true rfl)⟩)
theorem ct_X8_form  (I : WI) (L : WL) (a1 : Int32)  : Ct x_X8_form 6 [.ref 0, .int a1] ly0 I L R0 0 0 (some (.long (F_X8_form I L a1)), ly0, I, L, R0) :=
  Ct_of_V mo_X8_form.1 (Nat.le_of_ble_eq_true rfl) (V_X8_form (P := fun x => x = (F_X8_form I L a1))  (fun _ e => by rw [e]) rfl)
def F_X8_forms (I : WI) : Int64 :=
  (lsh 1 (((I 1 1) - 1) * ((I 1 2) - 1)))
theorem V_X8_forms  {I : WI} {L : WL}   {P : Int64 → Prop} {t : Tg} (hr : ∀ v, P v → t = (some (.long v), ly0, I, L, R0)) (kk : P (F_X8_forms I)) : V (zM x_X8_forms 1 0 0 t) 0 [(0, .ref 0)] [] ly0 I L R0 0 0 :=
  V_lconst (v := 1) (tat ok_X8_forms_0 (i := 0) (q := 1) rfl rfl) rfl <|
    V_aload_n (tat ok_X8_forms_0 (i := 1) (q := 2) rfl rfl) 0 rfl rfl <|
    V_getR (tat ok_X8_forms_0 (i := 2) (q := 5) rfl rfl) fk_X8_14 rfl rfl <|
    V_getI (tat ok_X8_forms_0 (i := 3) (q := 8) rfl rfl) fk_X8_117 rfl <|
    V_iconst (tat ok_X8_forms_0 (i := 4) (q := 9) rfl rfl) ic_1 <|
    V_isub (tat ok_X8_forms_0 (i := 5) (q := 10) rfl rfl) <|
    V_aload_n (tat ok_X8_forms_0 (i := 6) (q := 11) rfl rfl) 0 rfl rfl <|
    V_getR (tat ok_X8_forms_0 (i := 7) (q := 14) rfl rfl) fk_X8_14 rfl rfl <|
    V_getI (tat ok_X8_forms_0 (i := 8) (q := 17) rfl rfl) fk_X8_120 rfl <|
    V_iconst (tat ok_X8_forms_0 (i := 9) (q := 18) rfl rfl) ic_1 <|
    V_isub (tat ok_X8_forms_0 (i := 10) (q := 19) rfl rfl) <|
    V_imul (tat ok_X8_forms_0 (i := 11) (q := 20) rfl rfl) <|
    V_lshl (tat ok_X8_forms_0 (i := 12) (q := 21) rfl rfl) <|
    V_lret (tat ok_X8_forms_0 (i := 13) (q := 22) rfl rfl) rfl (hr (lsh 1 (((I 1 1) - 1) * ((I 1 2) - 1))) (jx (P := P) kk rfl)) ⟨(Nat.le_of_ble_eq_true rfl), (Nat.le_of_ble_eq_true rfl)⟩
theorem ct_X8_forms  (I : WI) (L : WL)  : Ct x_X8_forms 1 [.ref 0] ly0 I L R0 0 0 (some (.long (F_X8_forms I)), ly0, I, L, R0) :=
  Ct_of_V mo_X8_forms.1 (Nat.le_of_ble_eq_true rfl) (V_X8_forms (P := fun x => x = (F_X8_forms I))  (fun _ e => by rw [e]) rfl)
def F_X8_alike_62 (I : WI) (L : WL) (a1 : Int32) (s0 : Int32) : Int32 :=
  s0
theorem V_X8_alike_62  {I : WI} {L : WL} {a1 : Int32} {s0 : Int32} {P : Int32 → Prop} {t : Tg} (hs0 : bz s0 = s0) (hr : ∀ v, P v → t = (some (.int v), ly0, I, L, R0)) (kk : P (F_X8_alike_62 I L a1 s0)) : V (zM x_X8_alike 6 0 0 t) 62 [(0, .ref 0), (1, .int a1)] [.int s0] ly0 I L R0 0 0 :=
  V_iret (tat ok_X8_alike_0 (i := 33) (q := 63) rfl rfl) _ rfl (nar_int _) (hr s0 (jx (P := P) kk rfl)) ⟨(Nat.le_of_ble_eq_true rfl), (Nat.le_of_ble_eq_true rfl)⟩
def F_X8_alike_61 (I : WI) (L : WL) (a1 : Int32) : Int32 :=
  (F_X8_alike_62 I L a1 0)
theorem V_X8_alike_61  {I : WI} {L : WL} {a1 : Int32}  {P : Int32 → Prop} {t : Tg} (hr : ∀ v, P v → t = (some (.int v), ly0, I, L, R0)) (kk : P (F_X8_alike_61 I L a1)) : V (zM x_X8_alike 6 0 0 t) 61 [(0, .ref 0), (1, .int a1)] [] ly0 I L R0 0 0 :=
  V_iconst (tat ok_X8_alike_0 (i := 32) (q := 62) rfl rfl) ic_0 <|
    V_X8_alike_62 rfl hr (jx (P := P) kk rfl)
def F_X8_alike (I : WI) (L : WL) (a1 : Int32) : Int32 :=
  (if a1 = 0 then (if (bz (I 3 0)) = 0 then (-2) else (if (F_X0_sameSize I 3 1) = 0 then (F_X8_alike_61 I L a1) else (if (lg_cmp (F_X0_formOf I 1 ((L 1 3) ^^^ (L 3 3))) 0) = 0 then (F_X8_alike_62 I L a1 1) else (F_X8_alike_61 I L a1)))) else (if a1 = 1 then (if (bz (I 4 0)) = 0 then (-2) else (if (F_X0_sameSize I 4 1) = 0 then (F_X8_alike_61 I L a1) else (if (lg_cmp (F_X0_formOf I 1 ((L 1 3) ^^^ (L 4 3))) 0) = 0 then (F_X8_alike_62 I L a1 1) else (F_X8_alike_61 I L a1)))) else (-1)))
theorem V_X8_alike  {I : WI} {L : WL} {a1 : Int32}  {P : Int32 → Prop} {t : Tg} (hr : ∀ v, P v → t = (some (.int v), ly0, I, L, R0)) (kk : P (F_X8_alike I L a1)) : V (zM x_X8_alike 6 0 0 t) 0 [(0, .ref 0), (1, .int a1)] [] ly0 I L R0 0 0 :=
  V_aload_n (tat ok_X8_alike_0 (i := 0) (q := 1) rfl rfl) 0 rfl rfl <|
    V_iload_n (tat ok_X8_alike_0 (i := 1) (q := 2) rfl rfl) 1 rfl rfl <|
    (if c1 : a1 = 0 then V_cv1 (ct_img0 I L a1 c1) mo_X8_imageOf (tat ok_X8_alike_0 (i := 2) (q := 5) rfl rfl) ml_X8_183 rfl ⟨by decide, _, rfl, rfl⟩ ⟨(Nat.le_of_ble_eq_true rfl), (Nat.le_of_ble_eq_true rfl)⟩ ⟨(Nat.le_of_ble_eq_true rfl), (Nat.le_of_ble_eq_true rfl)⟩ (Nat.le_of_ble_eq_true rfl) <|
    V_astore_n (lv' := [(2, .ref 3), (0, .ref 0), (1, .int a1)]) (tat ok_X8_alike_0 (i := 3) (q := 6) rfl rfl) rfl (by decide) (Nat.le_of_ble_eq_true rfl) rfl <|
    V_aload_n (tat ok_X8_alike_0 (i := 4) (q := 7) rfl rfl) 0 rfl rfl <|
    V_ifnonnull (tat ok_X8_alike_0 (i := 5) (q := 10) rfl rfl) (by decide) rfl <|
    V_aload_n (tat ok_X8_alike_0 (i := 8) (q := 13) rfl rfl) 0 rfl rfl <|
    V_getZ (tat ok_X8_alike_0 (i := 9) (q := 16) rfl rfl) fk_X8_106 rfl <|
    V_if_ne (tat ok_X8_alike_0 (i := 10) (q := 19) rfl rfl) rfl (fun c3 => V_aload_n (tat ok_X8_alike_0 (i := 13) (q := 23) rfl rfl) 0 rfl rfl <|
    V_aload_n (tat ok_X8_alike_0 (i := 14) (q := 24) rfl rfl) 1 rfl rfl <|
    V_getR (tat ok_X8_alike_0 (i := 15) (q := 27) rfl rfl) fk_X8_14 rfl rfl <|
    V_cv1 (ct_X0_sameSize I L 3 1 rfl rfl) mo_X0_sameSize (tat ok_X8_alike_0 (i := 16) (q := 30) rfl rfl) ml_X8_187 rfl ⟨by decide, _, rfl, rfl⟩ ⟨(Nat.le_of_ble_eq_true rfl), (Nat.le_of_ble_eq_true rfl)⟩ ⟨(Nat.le_of_ble_eq_true rfl), (Nat.le_of_ble_eq_true rfl)⟩ (Nat.le_of_ble_eq_true rfl) <|
    V_if_eq (tat ok_X8_alike_0 (i := 17) (q := 33) rfl rfl) rfl (fun c4 => V_pick [1, 2] rfl (V_X8_alike_61  hr (jx (P := P) kk (Eq.trans (if_pos c1) (Eq.trans (if_neg c3) (if_pos c4)))))) (fun c4 => V_aload_n (tat ok_X8_alike_0 (i := 18) (q := 34) rfl rfl) 1 rfl rfl <|
    V_getR (tat ok_X8_alike_0 (i := 19) (q := 37) rfl rfl) fk_X8_14 rfl rfl <|
    V_aload_n (tat ok_X8_alike_0 (i := 20) (q := 38) rfl rfl) 1 rfl rfl <|
    V_getR (tat ok_X8_alike_0 (i := 21) (q := 41) rfl rfl) fk_X8_14 rfl rfl <|
    V_getL (tat ok_X8_alike_0 (i := 22) (q := 44) rfl rfl) fk_X8_137 rfl <|
    V_aload_n (tat ok_X8_alike_0 (i := 23) (q := 45) rfl rfl) 0 rfl rfl <|
    V_getL (tat ok_X8_alike_0 (i := 24) (q := 48) rfl rfl) fk_X8_137 rfl <|
    V_lxor (tat ok_X8_alike_0 (i := 25) (q := 49) rfl rfl) <|
    V_cv1 (ct_X0_formOf I L 1 ((L 1 3) ^^^ (L 3 3)) rfl) mo_X0_formOf (tat ok_X8_alike_0 (i := 26) (q := 52) rfl rfl) ml_X8_177 rfl ⟨by decide, _, rfl, rfl⟩ ⟨(Nat.le_of_ble_eq_true rfl), (Nat.le_of_ble_eq_true rfl)⟩ ⟨(Nat.le_of_ble_eq_true rfl), (Nat.le_of_ble_eq_true rfl)⟩ (Nat.le_of_ble_eq_true rfl) <|
    V_lconst (v := 0) (tat ok_X8_alike_0 (i := 27) (q := 53) rfl rfl) rfl <|
    V_lcmp (tat ok_X8_alike_0 (i := 28) (q := 54) rfl rfl) <|
    V_if_ne (tat ok_X8_alike_0 (i := 29) (q := 57) rfl rfl) rfl (fun c5 => V_pick [1, 2] rfl (V_X8_alike_61  hr (jx (P := P) kk (Eq.trans (if_pos c1) (Eq.trans (if_neg c3) (Eq.trans (if_neg c4) (if_neg c5))))))) (fun c5 => V_iconst (tat ok_X8_alike_0 (i := 30) (q := 58) rfl rfl) ic_1 <|
    V_goto (tat ok_X8_alike_0 (i := 31) (q := 61) rfl rfl) rfl <|
    V_pick [1, 2] rfl (V_X8_alike_62 rfl hr (jx (P := P) kk (Eq.trans (if_pos c1) (Eq.trans (if_neg c3) (Eq.trans (if_neg c4) (if_pos c5))))))))) (fun c3 => V_bipush (tat ok_X8_alike_0 (i := 11) (q := 21) rfl rfl) bp_m2 <|
    V_iret (tat ok_X8_alike_0 (i := 12) (q := 22) rfl rfl) _ rfl (nar_int _) (hr (-2) (jx (P := P) kk (Eq.trans (if_pos c1) (if_pos c3)))) ⟨(Nat.le_of_ble_eq_true rfl), (Nat.le_of_ble_eq_true rfl)⟩) else (if c2 : a1 = 1 then V_cv1 (ct_img1 I L a1 c2) mo_X8_imageOf (tat ok_X8_alike_0 (i := 2) (q := 5) rfl rfl) ml_X8_183 rfl ⟨by decide, _, rfl, rfl⟩ ⟨(Nat.le_of_ble_eq_true rfl), (Nat.le_of_ble_eq_true rfl)⟩ ⟨(Nat.le_of_ble_eq_true rfl), (Nat.le_of_ble_eq_true rfl)⟩ (Nat.le_of_ble_eq_true rfl) <|
    V_astore_n (lv' := [(2, .ref 4), (0, .ref 0), (1, .int a1)]) (tat ok_X8_alike_0 (i := 3) (q := 6) rfl rfl) rfl (by decide) (Nat.le_of_ble_eq_true rfl) rfl <|
    V_aload_n (tat ok_X8_alike_0 (i := 4) (q := 7) rfl rfl) 0 rfl rfl <|
    V_ifnonnull (tat ok_X8_alike_0 (i := 5) (q := 10) rfl rfl) (by decide) rfl <|
    V_aload_n (tat ok_X8_alike_0 (i := 8) (q := 13) rfl rfl) 0 rfl rfl <|
    V_getZ (tat ok_X8_alike_0 (i := 9) (q := 16) rfl rfl) fk_X8_106 rfl <|
    V_if_ne (tat ok_X8_alike_0 (i := 10) (q := 19) rfl rfl) rfl (fun c6 => V_aload_n (tat ok_X8_alike_0 (i := 13) (q := 23) rfl rfl) 0 rfl rfl <|
    V_aload_n (tat ok_X8_alike_0 (i := 14) (q := 24) rfl rfl) 1 rfl rfl <|
    V_getR (tat ok_X8_alike_0 (i := 15) (q := 27) rfl rfl) fk_X8_14 rfl rfl <|
    V_cv1 (ct_X0_sameSize I L 4 1 rfl rfl) mo_X0_sameSize (tat ok_X8_alike_0 (i := 16) (q := 30) rfl rfl) ml_X8_187 rfl ⟨by decide, _, rfl, rfl⟩ ⟨(Nat.le_of_ble_eq_true rfl), (Nat.le_of_ble_eq_true rfl)⟩ ⟨(Nat.le_of_ble_eq_true rfl), (Nat.le_of_ble_eq_true rfl)⟩ (Nat.le_of_ble_eq_true rfl) <|
    V_if_eq (tat ok_X8_alike_0 (i := 17) (q := 33) rfl rfl) rfl (fun c7 => V_pick [1, 2] rfl (V_X8_alike_61  hr (jx (P := P) kk (Eq.trans (if_neg c1) (Eq.trans (if_pos c2) (Eq.trans (if_neg c6) (if_pos c7))))))) (fun c7 => V_aload_n (tat ok_X8_alike_0 (i := 18) (q := 34) rfl rfl) 1 rfl rfl <|
    V_getR (tat ok_X8_alike_0 (i := 19) (q := 37) rfl rfl) fk_X8_14 rfl rfl <|
    V_aload_n (tat ok_X8_alike_0 (i := 20) (q := 38) rfl rfl) 1 rfl rfl <|
    V_getR (tat ok_X8_alike_0 (i := 21) (q := 41) rfl rfl) fk_X8_14 rfl rfl <|
    V_getL (tat ok_X8_alike_0 (i := 22) (q := 44) rfl rfl) fk_X8_137 rfl <|
    V_aload_n (tat ok_X8_alike_0 (i := 23) (q := 45) rfl rfl) 0 rfl rfl <|
    V_getL (tat ok_X8_alike_0 (i := 24) (q := 48) rfl rfl) fk_X8_137 rfl <|
    V_lxor (tat ok_X8_alike_0 (i := 25) (q := 49) rfl rfl) <|
    V_cv1 (ct_X0_formOf I L 1 ((L 1 3) ^^^ (L 4 3)) rfl) mo_X0_formOf (tat ok_X8_alike_0 (i := 26) (q := 52) rfl rfl) ml_X8_177 rfl ⟨by decide, _, rfl, rfl⟩ ⟨(Nat.le_of_ble_eq_true rfl), (Nat.le_of_ble_eq_true rfl)⟩ ⟨(Nat.le_of_ble_eq_true rfl), (Nat.le_of_ble_eq_true rfl)⟩ (Nat.le_of_ble_eq_true rfl) <|
    V_lconst (v := 0) (tat ok_X8_alike_0 (i := 27) (q := 53) rfl rfl) rfl <|
    V_lcmp (tat ok_X8_alike_0 (i := 28) (q := 54) rfl rfl) <|
    V_if_ne (tat ok_X8_alike_0 (i := 29) (q := 57) rfl rfl) rfl (fun c8 => V_pick [1, 2] rfl (V_X8_alike_61  hr (jx (P := P) kk (Eq.trans (if_neg c1) (Eq.trans (if_pos c2) (Eq.trans (if_neg c6) (Eq.trans (if_neg c7) (if_neg c8)))))))) (fun c8 => V_iconst (tat ok_X8_alike_0 (i := 30) (q := 58) rfl rfl) ic_1 <|
    V_goto (tat ok_X8_alike_0 (i := 31) (q := 61) rfl rfl) rfl <|
    V_pick [1, 2] rfl (V_X8_alike_62 rfl hr (jx (P := P) kk (Eq.trans (if_neg c1) (Eq.trans (if_pos c2) (Eq.trans (if_neg c6) (Eq.trans (if_neg c7) (if_pos c8)))))))))) (fun c6 => V_bipush (tat ok_X8_alike_0 (i := 11) (q := 21) rfl rfl) bp_m2 <|
    V_iret (tat ok_X8_alike_0 (i := 12) (q := 22) rfl rfl) _ rfl (nar_int _) (hr (-2) (jx (P := P) kk (Eq.trans (if_neg c1) (Eq.trans (if_pos c2) (if_pos c6))))) ⟨(Nat.le_of_ble_eq_true rfl), (Nat.le_of_ble_eq_true rfl)⟩) else V_cv1 (ct_imgN I L a1 c1 c2) mo_X8_imageOf (tat ok_X8_alike_0 (i := 2) (q := 5) rfl rfl) ml_X8_183 rfl ⟨by decide, _, rfl, rfl⟩ ⟨(Nat.le_of_ble_eq_true rfl), (Nat.le_of_ble_eq_true rfl)⟩ ⟨(Nat.le_of_ble_eq_true rfl), (Nat.le_of_ble_eq_true rfl)⟩ (Nat.le_of_ble_eq_true rfl) <|
    V_astoreN_n (lv' := [(2, .null), (0, .ref 0), (1, .int a1)]) (tat ok_X8_alike_0 (i := 3) (q := 6) rfl rfl) rfl (Nat.le_of_ble_eq_true rfl) rfl <|
    V_aloadN_n (tat ok_X8_alike_0 (i := 4) (q := 7) rfl rfl) 0 rfl rfl <|
    V_ifnonnullN (tat ok_X8_alike_0 (i := 5) (q := 10) rfl rfl) <|
    V_iconst (tat ok_X8_alike_0 (i := 6) (q := 11) rfl rfl) ic_m1 <|
    V_iret (tat ok_X8_alike_0 (i := 7) (q := 12) rfl rfl) _ rfl (nar_int _) (hr (-1) (jx (P := P) kk (Eq.trans (if_neg c1) (if_neg c2)))) ⟨(Nat.le_of_ble_eq_true rfl), (Nat.le_of_ble_eq_true rfl)⟩))
theorem ct_X8_alike  (I : WI) (L : WL) (a1 : Int32)  : Ct x_X8_alike 6 [.ref 0, .int a1] ly0 I L R0 0 0 (some (.int (F_X8_alike I L a1)), ly0, I, L, R0) :=
  Ct_of_V mo_X8_alike.1 (Nat.le_of_ble_eq_true rfl) (V_X8_alike (P := fun x => x = (F_X8_alike I L a1))  (fun _ e => by rw [e]) rfl)
def F_X8_toldOf (I : WI) (a1 : Int32) (a2 : Int32) : Int32 :=
  (if a1 = 0 then a2 else (if a1 = 1 then (I 27 1) else (if a1 = 2 then (I 27 2) else (I 27 3))))
theorem V_X8_toldOf  {I : WI} {L : WL} {a1 : Int32} {a2 : Int32}  {P : Int32 → Prop} {t : Tg} (hr : ∀ v, P v → t = (some (.int v), ly0, I, L, R0)) (kk : P (F_X8_toldOf I a1 a2)) : V (zM x_X8_toldOf 1 0 0 t) 0 [(0, .ref 0), (1, .int a1), (2, .int a2)] [] ly0 I L R0 0 0 :=
  V_iload_n (tat ok_X8_toldOf_0 (i := 0) (q := 1) rfl rfl) 1 rfl rfl <|
    (if c1 : a1 = 0 then V_tswJ (tgt := 28) (off := 27) 0 (tat ok_X8_toldOf_0 (i := 1) (q := 28) rfl rfl) (swj c1) ⟨rfl, by decide⟩ rfl (V_iload_n (tat ok_X8_toldOf_0 (i := 2) (q := 29) rfl rfl) 2 rfl rfl <|
    V_iret (tat ok_X8_toldOf_0 (i := 3) (q := 30) rfl rfl) _ rfl (nar_int _) (hr a2 (jx (P := P) kk (if_pos c1))) ⟨(Nat.le_of_ble_eq_true rfl), (Nat.le_of_ble_eq_true rfl)⟩) else (if c2 : a1 = 1 then V_tswJ (tgt := 30) (off := 29) 1 (tat ok_X8_toldOf_0 (i := 1) (q := 28) rfl rfl) (swj c2) ⟨rfl, by decide⟩ rfl (V_aload_n (tat ok_X8_toldOf_0 (i := 4) (q := 31) rfl rfl) 0 rfl rfl <|
    V_getR (tat ok_X8_toldOf_0 (i := 5) (q := 34) rfl rfl) fk_X8_63 rfl rfl <|
    V_getI (tat ok_X8_toldOf_0 (i := 6) (q := 37) rfl rfl) fk_X8_198 rfl <|
    V_iret (tat ok_X8_toldOf_0 (i := 7) (q := 38) rfl rfl) _ rfl (nar_int _) (hr (I 27 1) (jx (P := P) kk (Eq.trans (if_neg c1) (if_pos c2)))) ⟨(Nat.le_of_ble_eq_true rfl), (Nat.le_of_ble_eq_true rfl)⟩) else (if c3 : a1 = 2 then V_tswJ (tgt := 38) (off := 37) 2 (tat ok_X8_toldOf_0 (i := 1) (q := 28) rfl rfl) (swj c3) ⟨rfl, by decide⟩ rfl (V_aload_n (tat ok_X8_toldOf_0 (i := 8) (q := 39) rfl rfl) 0 rfl rfl <|
    V_getR (tat ok_X8_toldOf_0 (i := 9) (q := 42) rfl rfl) fk_X8_63 rfl rfl <|
    V_getI (tat ok_X8_toldOf_0 (i := 10) (q := 45) rfl rfl) fk_X8_206 rfl <|
    V_iret (tat ok_X8_toldOf_0 (i := 11) (q := 46) rfl rfl) _ rfl (nar_int _) (hr (I 27 2) (jx (P := P) kk (Eq.trans (if_neg c1) (Eq.trans (if_neg c2) (if_pos c3))))) ⟨(Nat.le_of_ble_eq_true rfl), (Nat.le_of_ble_eq_true rfl)⟩) else V_tswD (tgt := 46) (tat ok_X8_toldOf_0 (i := 1) (q := 28) rfl rfl) (sw3 c1 c2 c3) rfl (V_aload_n (tat ok_X8_toldOf_0 (i := 12) (q := 47) rfl rfl) 0 rfl rfl <|
    V_getR (tat ok_X8_toldOf_0 (i := 13) (q := 50) rfl rfl) fk_X8_63 rfl rfl <|
    V_getI (tat ok_X8_toldOf_0 (i := 14) (q := 53) rfl rfl) fk_X8_330 rfl <|
    V_iret (tat ok_X8_toldOf_0 (i := 15) (q := 54) rfl rfl) _ rfl (nar_int _) (hr (I 27 3) (jx (P := P) kk (Eq.trans (if_neg c1) (Eq.trans (if_neg c2) (if_neg c3))))) ⟨(Nat.le_of_ble_eq_true rfl), (Nat.le_of_ble_eq_true rfl)⟩))))
theorem ct_X8_toldOf  (I : WI) (L : WL) (a1 : Int32) (a2 : Int32)  : Ct x_X8_toldOf 1 [.ref 0, .int a1, .int a2] ly0 I L R0 0 0 (some (.int (F_X8_toldOf I a1 a2)), ly0, I, L, R0) :=
  Ct_of_V mo_X8_toldOf.1 (Nat.le_of_ble_eq_true rfl) (V_X8_toldOf (P := fun x => x = (F_X8_toldOf I a1 a2))  (fun _ e => by rw [e]) rfl)
def F_X8_plan_9 (I : WI) (L : WL) (a1 : Int32) : (Int32 × WI) :=
  ((-1), I)
theorem V_X8_plan_9  {I : WI} {L : WL} {a1 : Int32}  {P : (Int32 × WI) → Prop} {t : Tg} (hr : ∀ v, P v → t = (some (.int (p1 v)), ly0, (p2 v), L, R0)) (kk : P (F_X8_plan_9 I L a1)) : V (zM x_X8_plan 7 0 0 t) 9 [(0, .ref 0), (1, .int a1)] [] ly0 I L R0 0 0 :=
  V_iconst (tat ok_X8_plan_0 (i := 5) (q := 10) rfl rfl) ic_m1 <|
    V_iret (tat ok_X8_plan_0 (i := 6) (q := 11) rfl rfl) _ rfl (nar_int _) (hr ((-1), I) (jx (P := P) kk rfl)) ⟨(Nat.le_of_ble_eq_true rfl), (Nat.le_of_ble_eq_true rfl)⟩
def F_X8_plan (I : WI) (L : WL) (a1 : Int32) : (Int32 × WI) :=
  (if a1 < 0 then (F_X8_plan_9 I L a1) else (if a1 ≤ 3 then (if (bz (I 2 0)) = 0 then ((-2), I) else (if (bz ((F_X7_findPlan I 1 ((L 1 3) ^^^ (L 2 3))) 27 0)) = 0 then ((-4), (F_X7_findPlan I 1 ((L 1 3) ^^^ (L 2 3)))) else (if a1 = 3 then ((if (F_J6_bitCount_0f7a4 ((F_X7_findPlan I 1 ((L 1 3) ^^^ (L 2 3))) 27 1)) < (F_J6_bitCount_0f7a4 ((F_X7_findPlan I 1 ((L 1 3) ^^^ (L 2 3))) 27 2)) then (F_J6_bitCount_0f7a4 ((F_X7_findPlan I 1 ((L 1 3) ^^^ (L 2 3))) 27 2)) else (F_J6_bitCount_0f7a4 ((F_X7_findPlan I 1 ((L 1 3) ^^^ (L 2 3))) 27 1))), (F_X7_findPlan I 1 ((L 1 3) ^^^ (L 2 3)))) else ((F_X8_toldOf (F_X7_findPlan I 1 ((L 1 3) ^^^ (L 2 3))) a1 (F_X7_acts (F_X7_findPlan I 1 ((L 1 3) ^^^ (L 2 3))))), (F_X7_findPlan I 1 ((L 1 3) ^^^ (L 2 3))))))) else (F_X8_plan_9 I L a1)))
theorem V_X8_plan  {I : WI} {L : WL} {a1 : Int32}  {P : (Int32 × WI) → Prop} {t : Tg} (hr : ∀ v, P v → t = (some (.int (p1 v)), ly0, (p2 v), L, R0)) (kk : P (F_X8_plan I L a1)) : V (zM x_X8_plan 7 0 0 t) 0 [(0, .ref 0), (1, .int a1)] [] ly0 I L R0 0 0 :=
  V_iload_n (tat ok_X8_plan_0 (i := 0) (q := 1) rfl rfl) 1 rfl rfl <|
    V_if_lt (tat ok_X8_plan_0 (i := 1) (q := 4) rfl rfl) rfl (fun c1 => V_X8_plan_9  hr (jx (P := P) kk (if_pos c1))) (fun c1 => V_iload_n (tat ok_X8_plan_0 (i := 2) (q := 5) rfl rfl) 1 rfl rfl <|
    V_iconst (tat ok_X8_plan_0 (i := 3) (q := 6) rfl rfl) ic_3 <|
    V_icmp_le (tat ok_X8_plan_0 (i := 4) (q := 9) rfl rfl) rfl (fun c2 => V_aload_n (tat ok_X8_plan_0 (i := 7) (q := 12) rfl rfl) 0 rfl rfl <|
    V_getR (tat ok_X8_plan_0 (i := 8) (q := 15) rfl rfl) fk_X8_18 rfl rfl <|
    V_getZ (tat ok_X8_plan_0 (i := 9) (q := 18) rfl rfl) fk_X8_106 rfl <|
    V_if_ne (tat ok_X8_plan_0 (i := 10) (q := 21) rfl rfl) rfl (fun c3 => V_aload_n (tat ok_X8_plan_0 (i := 13) (q := 25) rfl rfl) 0 rfl rfl <|
    V_getR (tat ok_X8_plan_0 (i := 14) (q := 28) rfl rfl) fk_X8_63 rfl rfl <|
    V_aload_n (tat ok_X8_plan_0 (i := 15) (q := 29) rfl rfl) 0 rfl rfl <|
    V_getR (tat ok_X8_plan_0 (i := 16) (q := 32) rfl rfl) fk_X8_14 rfl rfl <|
    V_aload_n (tat ok_X8_plan_0 (i := 17) (q := 33) rfl rfl) 0 rfl rfl <|
    V_getR (tat ok_X8_plan_0 (i := 18) (q := 36) rfl rfl) fk_X8_14 rfl rfl <|
    V_getL (tat ok_X8_plan_0 (i := 19) (q := 39) rfl rfl) fk_X8_137 rfl <|
    V_aload_n (tat ok_X8_plan_0 (i := 20) (q := 40) rfl rfl) 0 rfl rfl <|
    V_getR (tat ok_X8_plan_0 (i := 21) (q := 43) rfl rfl) fk_X8_18 rfl rfl <|
    V_getL (tat ok_X8_plan_0 (i := 22) (q := 46) rfl rfl) fk_X8_137 rfl <|
    V_lxor (tat ok_X8_plan_0 (i := 23) (q := 47) rfl rfl) <|
    V_cv2v (ct_X7_findPlan I L 1 ((L 1 3) ^^^ (L 2 3)) rfl) mo_X7_findPlan (tat ok_X8_plan_0 (i := 24) (q := 50) rfl rfl) ml_X8_191 rfl ⟨by decide, _, rfl, rfl⟩ ⟨(Nat.le_of_ble_eq_true rfl), (Nat.le_of_ble_eq_true rfl)⟩ ⟨(Nat.le_of_ble_eq_true rfl), (Nat.le_of_ble_eq_true rfl)⟩ (Nat.le_of_ble_eq_true rfl) <|
    V_aload_n (tat ok_X8_plan_0 (i := 25) (q := 51) rfl rfl) 0 rfl rfl <|
    V_getR (tat ok_X8_plan_0 (i := 26) (q := 54) rfl rfl) fk_X8_63 rfl rfl <|
    V_getZ (tat ok_X8_plan_0 (i := 27) (q := 57) rfl rfl) fk_X8_195 rfl <|
    V_if_ne (tat ok_X8_plan_0 (i := 28) (q := 60) rfl rfl) rfl (fun c4 => V_iload_n (tat ok_X8_plan_0 (i := 31) (q := 64) rfl rfl) 1 rfl rfl <|
    V_iconst (tat ok_X8_plan_0 (i := 32) (q := 65) rfl rfl) ic_3 <|
    V_icmp_ne (tat ok_X8_plan_0 (i := 33) (q := 68) rfl rfl) rfl (fun c5 => V_aload_n (tat ok_X8_plan_1 (i := 4) (q := 93) rfl rfl) 0 rfl rfl <|
    V_iload_n (tat ok_X8_plan_1 (i := 5) (q := 94) rfl rfl) 1 rfl rfl <|
    V_aload_n (tat ok_X8_plan_1 (i := 6) (q := 95) rfl rfl) 0 rfl rfl <|
    V_getR (tat ok_X8_plan_1 (i := 7) (q := 98) rfl rfl) fk_X8_63 rfl rfl <|
    V_cv0 (ct_X7_acts (F_X7_findPlan I 1 ((L 1 3) ^^^ (L 2 3))) L  ) mo_X7_acts (tat ok_X8_plan_1 (i := 8) (q := 101) rfl rfl) ml_X8_214 rfl ⟨by decide, _, rfl, rfl⟩ ⟨(Nat.le_of_ble_eq_true rfl), (Nat.le_of_ble_eq_true rfl)⟩ ⟨(Nat.le_of_ble_eq_true rfl), (Nat.le_of_ble_eq_true rfl)⟩ (Nat.le_of_ble_eq_true rfl) <|
    V_cv2 (ct_X8_toldOf (F_X7_findPlan I 1 ((L 1 3) ^^^ (L 2 3))) L a1 (F_X7_acts (F_X7_findPlan I 1 ((L 1 3) ^^^ (L 2 3)))) ) mo_X8_toldOf (tat ok_X8_plan_1 (i := 9) (q := 104) rfl rfl) ml_X8_217 rfl ⟨by decide, _, rfl, rfl⟩ ⟨(Nat.le_of_ble_eq_true rfl), (Nat.le_of_ble_eq_true rfl)⟩ ⟨(Nat.le_of_ble_eq_true rfl), (Nat.le_of_ble_eq_true rfl)⟩ (Nat.le_of_ble_eq_true rfl) <|
    V_iret (tat ok_X8_plan_1 (i := 10) (q := 105) rfl rfl) _ rfl (nar_int _) (hr ((F_X8_toldOf (F_X7_findPlan I 1 ((L 1 3) ^^^ (L 2 3))) a1 (F_X7_acts (F_X7_findPlan I 1 ((L 1 3) ^^^ (L 2 3))))), (F_X7_findPlan I 1 ((L 1 3) ^^^ (L 2 3)))) (jx (P := P) kk (Eq.trans (if_neg c1) (Eq.trans (if_pos c2) (Eq.trans (if_neg c3) (Eq.trans (if_neg c4) (if_neg c5))))))) ⟨(Nat.le_of_ble_eq_true rfl), (Nat.le_of_ble_eq_true rfl)⟩) (fun c5 => V_aload_n (tat ok_X8_plan_0 (i := 34) (q := 69) rfl rfl) 0 rfl rfl <|
    V_getR (tat ok_X8_plan_0 (i := 35) (q := 72) rfl rfl) fk_X8_63 rfl rfl <|
    V_getI (tat ok_X8_plan_0 (i := 36) (q := 75) rfl rfl) fk_X8_198 rfl <|
    V_cs1 (ct_J6_bitCount_0f7a4 (F_X7_findPlan I 1 ((L 1 3) ^^^ (L 2 3))) L ((F_X7_findPlan I 1 ((L 1 3) ^^^ (L 2 3))) 27 1) ) mo_J6_bitCount_0f7a4 (tat ok_X8_plan_0 (i := 37) (q := 78) rfl rfl) ml_X8_201 ⟨(Nat.le_of_ble_eq_true rfl), (Nat.le_of_ble_eq_true rfl)⟩ ⟨(Nat.le_of_ble_eq_true rfl), (Nat.le_of_ble_eq_true rfl)⟩ (Nat.le_of_ble_eq_true rfl) <|
    V_aload_n (tat ok_X8_plan_0 (i := 38) (q := 79) rfl rfl) 0 rfl rfl <|
    V_getR (tat ok_X8_plan_0 (i := 39) (q := 82) rfl rfl) fk_X8_63 rfl rfl <|
    V_getI (tat ok_X8_plan_1 (i := 0) (q := 85) rfl rfl) fk_X8_206 rfl <|
    V_cs1 (ct_J6_bitCount_0f7a4 (F_X7_findPlan I 1 ((L 1 3) ^^^ (L 2 3))) L ((F_X7_findPlan I 1 ((L 1 3) ^^^ (L 2 3))) 27 2) ) mo_J6_bitCount_0f7a4 (tat ok_X8_plan_1 (i := 1) (q := 88) rfl rfl) ml_X8_201 ⟨(Nat.le_of_ble_eq_true rfl), (Nat.le_of_ble_eq_true rfl)⟩ ⟨(Nat.le_of_ble_eq_true rfl), (Nat.le_of_ble_eq_true rfl)⟩ (Nat.le_of_ble_eq_true rfl) <|
    V_max (tat ok_X8_plan_1 (i := 2) (q := 91) rfl rfl) mm_li_X8_209 mm_max_st mm_max_co mm_ini ⟨(Nat.le_of_ble_eq_true rfl), (Nat.le_of_ble_eq_true rfl)⟩ ⟨(Nat.le_of_ble_eq_true rfl), (Nat.le_of_ble_eq_true rfl)⟩ <|
    V_iret (tat ok_X8_plan_1 (i := 3) (q := 92) rfl rfl) _ rfl (nar_int _) (hr ((if (F_J6_bitCount_0f7a4 ((F_X7_findPlan I 1 ((L 1 3) ^^^ (L 2 3))) 27 1)) < (F_J6_bitCount_0f7a4 ((F_X7_findPlan I 1 ((L 1 3) ^^^ (L 2 3))) 27 2)) then (F_J6_bitCount_0f7a4 ((F_X7_findPlan I 1 ((L 1 3) ^^^ (L 2 3))) 27 2)) else (F_J6_bitCount_0f7a4 ((F_X7_findPlan I 1 ((L 1 3) ^^^ (L 2 3))) 27 1))), (F_X7_findPlan I 1 ((L 1 3) ^^^ (L 2 3)))) (jx (P := P) kk (Eq.trans (if_neg c1) (Eq.trans (if_pos c2) (Eq.trans (if_neg c3) (Eq.trans (if_neg c4) (if_pos c5))))))) ⟨(Nat.le_of_ble_eq_true rfl), (Nat.le_of_ble_eq_true rfl)⟩)) (fun c4 => V_bipush (tat ok_X8_plan_0 (i := 29) (q := 62) rfl rfl) bp_m4 <|
    V_iret (tat ok_X8_plan_0 (i := 30) (q := 63) rfl rfl) _ rfl (nar_int _) (hr ((-4), (F_X7_findPlan I 1 ((L 1 3) ^^^ (L 2 3)))) (jx (P := P) kk (Eq.trans (if_neg c1) (Eq.trans (if_pos c2) (Eq.trans (if_neg c3) (if_pos c4)))))) ⟨(Nat.le_of_ble_eq_true rfl), (Nat.le_of_ble_eq_true rfl)⟩)) (fun c3 => V_bipush (tat ok_X8_plan_0 (i := 11) (q := 23) rfl rfl) bp_m2 <|
    V_iret (tat ok_X8_plan_0 (i := 12) (q := 24) rfl rfl) _ rfl (nar_int _) (hr ((-2), I) (jx (P := P) kk (Eq.trans (if_neg c1) (Eq.trans (if_pos c2) (if_pos c3))))) ⟨(Nat.le_of_ble_eq_true rfl), (Nat.le_of_ble_eq_true rfl)⟩)) (fun c2 => V_X8_plan_9  hr (jx (P := P) kk (Eq.trans (if_neg c1) (if_neg c2)))))
