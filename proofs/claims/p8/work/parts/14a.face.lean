def F_X8_feed_23 (I : WI) (a1 : Int64) (s0 : Int32) : (Int32 × WI) :=
  (s0, I)
theorem V_X8_feed_23  {I : WI} {L : WL} {a1 : Int64} {s0 : Int32} {P : (Int32 × WI) → Prop} {t : Tg} (hr : ∀ v, P v → t = (some (.int (p1 v)), ly0, (p2 v), L, R0)) (kk : P (F_X8_feed_23 I a1 s0)) : V (zM x_X8_feed 2 0 0 t) 23 [(0, .ref 0), (1, .long a1)] [.int s0] ly0 I L R0 0 0 :=
  V_iret (tat ok_X8_feed_0 (i := 10) (q := 24) rfl rfl) _ rfl (nar_int _) (hr (s0, I) (jx (P := P) kk rfl)) ⟨(Nat.le_of_ble_eq_true rfl), (Nat.le_of_ble_eq_true rfl)⟩
def F_X8_feed (I : WI) (a1 : Int64) : (Int32 × WI) :=
  (if (p1 (F_X5_add I a1)) = 0 then (F_X8_feed_23 (p2 (F_X5_add I a1)) a1 (-3)) else (F_X8_feed_23 (p2 (F_X5_add I a1)) a1 ((p2 (F_X5_add I a1)) 9 0)))
theorem V_X8_feed  {I : WI} {L : WL} {a1 : Int64}  {P : (Int32 × WI) → Prop} {t : Tg} (hr : ∀ v, P v → t = (some (.int (p1 v)), ly0, (p2 v), L, R0)) (kk : P (F_X8_feed I a1)) : V (zM x_X8_feed 2 0 0 t) 0 [(0, .ref 0), (1, .long a1)] [] ly0 I L R0 0 0 :=
  V_aload_n (tat ok_X8_feed_0 (i := 0) (q := 1) rfl rfl) 0 rfl rfl <|
    V_getR (tat ok_X8_feed_0 (i := 1) (q := 4) rfl rfl) fk_X8_40 rfl rfl <|
    V_lload_n (tat ok_X8_feed_0 (i := 2) (q := 5) rfl rfl) 1 rfl rfl <|
    V_cv1 (ct_X5_add I L a1 ) mo_X5_add (tat ok_X8_feed_0 (i := 3) (q := 8) rfl rfl) ml_X8_81 rfl ⟨by decide, _, rfl, rfl⟩ ⟨(Nat.le_of_ble_eq_true rfl), (Nat.le_of_ble_eq_true rfl)⟩ ⟨(Nat.le_of_ble_eq_true rfl), (Nat.le_of_ble_eq_true rfl)⟩ (Nat.le_of_ble_eq_true rfl) <|
    V_if_eq (tat ok_X8_feed_0 (i := 4) (q := 11) rfl rfl) rfl (fun c1 => V_bipush (tat ok_X8_feed_0 (i := 9) (q := 23) rfl rfl) bp_m3 <|
    V_X8_feed_23  hr (jx (P := P) kk (if_pos c1))) (fun c1 => V_aload_n (tat ok_X8_feed_0 (i := 5) (q := 12) rfl rfl) 0 rfl rfl <|
    V_getR (tat ok_X8_feed_0 (i := 6) (q := 15) rfl rfl) fk_X8_40 rfl rfl <|
    V_getI (tat ok_X8_feed_0 (i := 7) (q := 18) rfl rfl) fk_X8_85 rfl <|
    V_goto (tat ok_X8_feed_0 (i := 8) (q := 21) rfl rfl) rfl <|
    V_X8_feed_23  hr (jx (P := P) kk (if_neg c1)))
theorem ct_X8_feed  (I : WI) (L : WL) (a1 : Int64)  : Ct x_X8_feed 2 [.ref 0, .long a1] ly0 I L R0 0 0 (some (.int (p1 (F_X8_feed I a1))), ly0, (p2 (F_X8_feed I a1)), L, R0) :=
  Ct_of_V mo_X8_feed.1 (Nat.le_of_ble_eq_true rfl) (V_X8_feed (P := fun x => x = (F_X8_feed I a1))  (fun _ e => by rw [e]) rfl)
def F_X8_end_15 (I : WI) (a1 : Int32) : (Int32 × WI) :=
  ((-1), I)
theorem V_X8_end_15  {I : WI} {L : WL} {a1 : Int32}  {P : (Int32 × WI) → Prop} {t : Tg} (hr : ∀ v, P v → t = (some (.int (p1 v)), ly0, (p2 v), L, R0)) (kk : P (F_X8_end_15 I a1)) : V (zM x_X8_end 1 0 0 t) 15 [(0, .ref 0), (1, .int a1)] [] ly0 I L R0 0 0 :=
  V_iconst (tat ok_X8_end_0 (i := 7) (q := 16) rfl rfl) ic_m1 <|
    V_iret (tat ok_X8_end_0 (i := 8) (q := 17) rfl rfl) _ rfl (nar_int _) (hr ((-1), I) (jx (P := P) kk rfl)) ⟨(Nat.le_of_ble_eq_true rfl), (Nat.le_of_ble_eq_true rfl)⟩
def F_X8_end (I : WI) (a1 : Int32) : (Int32 × WI) :=
  (if a1 < 0 then (F_X8_end_15 I a1) else (if a1 ≤ (I 9 0) then ((I 9 0), (u2 I 9 0 a1)) else (F_X8_end_15 I a1)))
theorem V_X8_end  {I : WI} {L : WL} {a1 : Int32}  {P : (Int32 × WI) → Prop} {t : Tg} (hr : ∀ v, P v → t = (some (.int (p1 v)), ly0, (p2 v), L, R0)) (kk : P (F_X8_end I a1)) : V (zM x_X8_end 1 0 0 t) 0 [(0, .ref 0), (1, .int a1)] [] ly0 I L R0 0 0 :=
  V_iload_n (tat ok_X8_end_0 (i := 0) (q := 1) rfl rfl) 1 rfl rfl <|
    V_if_lt (tat ok_X8_end_0 (i := 1) (q := 4) rfl rfl) rfl (fun c1 => V_X8_end_15  hr (jx (P := P) kk (if_pos c1))) (fun c1 => V_iload_n (tat ok_X8_end_0 (i := 2) (q := 5) rfl rfl) 1 rfl rfl <|
    V_aload_n (tat ok_X8_end_0 (i := 3) (q := 6) rfl rfl) 0 rfl rfl <|
    V_getR (tat ok_X8_end_0 (i := 4) (q := 9) rfl rfl) fk_X8_40 rfl rfl <|
    V_getI (tat ok_X8_end_0 (i := 5) (q := 12) rfl rfl) fk_X8_85 rfl <|
    V_icmp_le (tat ok_X8_end_0 (i := 6) (q := 15) rfl rfl) rfl (fun c2 => V_aload_n (tat ok_X8_end_0 (i := 9) (q := 18) rfl rfl) 0 rfl rfl <|
    V_getR (tat ok_X8_end_0 (i := 10) (q := 21) rfl rfl) fk_X8_40 rfl rfl <|
    V_getI (tat ok_X8_end_0 (i := 11) (q := 24) rfl rfl) fk_X8_85 rfl <|
    V_istore_n (lv' := [(2, .int (I 9 0)), (0, .ref 0), (1, .int a1)]) (tat ok_X8_end_0 (i := 12) (q := 25) rfl rfl) rfl (Nat.le_of_ble_eq_true rfl) rfl <|
    V_aload_n (tat ok_X8_end_0 (i := 13) (q := 26) rfl rfl) 1 rfl rfl <|
    V_getR (tat ok_X8_end_0 (i := 14) (q := 29) rfl rfl) fk_X8_40 rfl rfl <|
    V_iload_n (tat ok_X8_end_0 (i := 15) (q := 30) rfl rfl) 2 rfl rfl <|
    V_putI (tat ok_X8_end_0 (i := 16) (q := 33) rfl rfl) fk_X8_85 rfl rfl <|
    V_iload_n (tat ok_X8_end_0 (i := 17) (q := 34) rfl rfl) 0 rfl rfl <|
    V_iret (tat ok_X8_end_0 (i := 18) (q := 35) rfl rfl) _ rfl (nar_int _) (hr ((I 9 0), (u2 I 9 0 a1)) (jx (P := P) kk (Eq.trans (if_neg c1) (if_pos c2)))) ⟨(Nat.le_of_ble_eq_true rfl), (Nat.le_of_ble_eq_true rfl)⟩) (fun c2 => V_X8_end_15  hr (jx (P := P) kk (Eq.trans (if_neg c1) (if_neg c2)))))
theorem ct_X8_end  (I : WI) (L : WL) (a1 : Int32)  : Ct x_X8_end 1 [.ref 0, .int a1] ly0 I L R0 0 0 (some (.int (p1 (F_X8_end I a1))), ly0, (p2 (F_X8_end I a1)), L, R0) :=
  Ct_of_V mo_X8_end.1 (Nat.le_of_ble_eq_true rfl) (V_X8_end (P := fun x => x = (F_X8_end I a1))  (fun _ e => by rw [e]) rfl)
def F_X8_text_100 (I : WI) (L : WL)  (a1 : Int32) : Option (Int32 × WI × WL) :=
  some (a1, I, L)
theorem V_X8_text_100  {I : WI} {L : WL}  {a1 : Int32} {P : (Int32 × WI × WL) → Prop} {t : Tg} (hr : ∀ v, P v → t = (some (.int (p1 v)), ly0, (p1 (p2 v)), (p2 (p2 v)), R0)) (kk : oP P (F_X8_text_100 I L a1)) : V (zM x_X8_text 10 0 0 t) 100 [(0, .ref 0), (1, .int a1)] [] ly0 I L R0 0 0 :=
  V_iload_n (tat ok_X8_text_1 (i := 6) (q := 101) rfl rfl) 1 rfl rfl <|
    V_iret (tat ok_X8_text_1 (i := 7) (q := 102) rfl rfl) _ rfl (nar_int _) (hr (a1, I, L) (jx (P := oP P) kk rfl)) ⟨(Nat.le_of_ble_eq_true rfl), (Nat.le_of_ble_eq_true rfl)⟩
def F_X8_text (I : WI) (L : WL) : Option (Int32 × WI × WL) :=
  (Option.bind (F_X6_takeText I L) (fun v1 => (if ((u2 (u2 (p1 (p2 v1)) 0 13 ((p1 (p2 v1)) 11 3)) 9 0 0) 0 13) = 0 then (Option.bind (F_X1_become (p1 (F_X0_become (u2 (p1 (F_X0_become (u2 (u2 (p1 (p2 v1)) 0 13 ((p1 (p2 v1)) 11 3)) 9 0 0) (p2 (p2 v1)) 1 12)) 1 0 1) (p2 (F_X0_become (u2 (u2 (p1 (p2 v1)) 0 13 ((p1 (p2 v1)) 11 3)) 9 0 0) (p2 (p2 v1)) 1 12)) 2 13)) 6 14) (fun v3 => (F_X8_text_100 (u2 (u2 v3 3 0 0) 4 0 0) (p2 (F_X0_become (u2 (p1 (F_X0_become (u2 (u2 (p1 (p2 v1)) 0 13 ((p1 (p2 v1)) 11 3)) 9 0 0) (p2 (p2 v1)) 1 12)) 1 0 1) (p2 (F_X0_become (u2 (u2 (p1 (p2 v1)) 0 13 ((p1 (p2 v1)) 11 3)) 9 0 0) (p2 (p2 v1)) 1 12)) 2 13)) (p1 v1)))) else (F_X8_text_100 (u2 (u2 (p1 (p2 v1)) 0 13 ((p1 (p2 v1)) 11 3)) 9 0 0) (p2 (p2 v1)) (p1 v1)))))
theorem V_X8_text  {I : WI} {L : WL}   {P : (Int32 × WI × WL) → Prop} {t : Tg} (hr : ∀ v, P v → t = (some (.int (p1 v)), ly0, (p1 (p2 v)), (p2 (p2 v)), R0)) (kk : oP P (F_X8_text I L)) : V (zM x_X8_text 10 0 0 t) 0 [(0, .ref 0)] [] ly0 I L R0 0 0 :=
  V_aload_n (tat ok_X8_text_0 (i := 0) (q := 1) rfl rfl) 0 rfl rfl <|
    V_getR (tat ok_X8_text_0 (i := 1) (q := 4) rfl rfl) fk_X8_49 rfl rfl <|
    oP_case (jx (P := oP P) kk rfl) (fun v1 e1 _ => V_cv0 (ct_X6_takeText I L   e1) mo_X6_takeText (tat ok_X8_text_0 (i := 2) (q := 7) rfl rfl) ml_X8_89 rfl ⟨by decide, _, rfl, rfl⟩ ⟨(Nat.le_of_ble_eq_true rfl), (Nat.le_of_ble_eq_true rfl)⟩ ⟨(Nat.le_of_ble_eq_true rfl), (Nat.le_of_ble_eq_true rfl)⟩ (Nat.le_of_ble_eq_true rfl) <|
    V_istore_n (lv' := [(1, .int (p1 v1)), (0, .ref 0)]) (tat ok_X8_text_0 (i := 3) (q := 8) rfl rfl) rfl (Nat.le_of_ble_eq_true rfl) rfl <|
    V_aload_n (tat ok_X8_text_0 (i := 4) (q := 9) rfl rfl) 1 rfl rfl <|
    V_aload_n (tat ok_X8_text_0 (i := 5) (q := 10) rfl rfl) 1 rfl rfl <|
    V_getR (tat ok_X8_text_0 (i := 6) (q := 13) rfl rfl) fk_X8_49 rfl rfl <|
    V_getI (tat ok_X8_text_0 (i := 7) (q := 16) rfl rfl) fk_X8_93 rfl <|
    V_putI (tat ok_X8_text_0 (i := 8) (q := 19) rfl rfl) fk_X8_96 rfl rfl <|
    V_aload_n (tat ok_X8_text_0 (i := 9) (q := 20) rfl rfl) 1 rfl rfl <|
    V_getR (tat ok_X8_text_0 (i := 10) (q := 23) rfl rfl) fk_X8_40 rfl rfl <|
    V_iconst (tat ok_X8_text_0 (i := 11) (q := 24) rfl rfl) ic_0 <|
    V_putI (tat ok_X8_text_0 (i := 12) (q := 27) rfl rfl) fk_X8_85 rfl rfl <|
    V_aload_n (tat ok_X8_text_0 (i := 13) (q := 28) rfl rfl) 1 rfl rfl <|
    V_getI (tat ok_X8_text_0 (i := 14) (q := 31) rfl rfl) fk_X8_96 rfl <|
    V_if_ne (tat ok_X8_text_0 (i := 15) (q := 34) rfl rfl) rfl (fun c2 => V_pick [1, 0] rfl (V_X8_text_100  hr (jx (P := oP P) kk (Eq.trans (ob e1) (if_neg c2))))) (fun c2 => V_aload_n (tat ok_X8_text_0 (i := 16) (q := 35) rfl rfl) 1 rfl rfl <|
    V_getR (tat ok_X8_text_0 (i := 17) (q := 38) rfl rfl) fk_X8_14 rfl rfl <|
    V_aload_n (tat ok_X8_text_0 (i := 18) (q := 39) rfl rfl) 1 rfl rfl <|
    V_getR (tat ok_X8_text_0 (i := 19) (q := 42) rfl rfl) fk_X8_49 rfl rfl <|
    V_getR (tat ok_X8_text_0 (i := 20) (q := 45) rfl rfl) fk_X8_99 rfl rfl <|
    V_cv1v (ct_X0_become (u2 (u2 (p1 (p2 v1)) 0 13 ((p1 (p2 v1)) 11 3)) 9 0 0) (p2 (p2 v1)) 1 12 rfl rfl) mo_X0_become (tat ok_X8_text_0 (i := 21) (q := 48) rfl rfl) ml_X8_102 rfl ⟨by decide, _, rfl, rfl⟩ ⟨(Nat.le_of_ble_eq_true rfl), (Nat.le_of_ble_eq_true rfl)⟩ ⟨(Nat.le_of_ble_eq_true rfl), (Nat.le_of_ble_eq_true rfl)⟩ (Nat.le_of_ble_eq_true rfl) <|
    V_aload_n (tat ok_X8_text_0 (i := 22) (q := 49) rfl rfl) 1 rfl rfl <|
    V_getR (tat ok_X8_text_0 (i := 23) (q := 52) rfl rfl) fk_X8_14 rfl rfl <|
    V_iconst (tat ok_X8_text_0 (i := 24) (q := 53) rfl rfl) ic_1 <|
    V_putZ (tat ok_X8_text_0 (i := 25) (q := 56) rfl rfl) fk_X8_106 rfl rfl rfl <|
    V_aload_n (tat ok_X8_text_0 (i := 26) (q := 57) rfl rfl) 1 rfl rfl <|
    V_getR (tat ok_X8_text_0 (i := 27) (q := 60) rfl rfl) fk_X8_18 rfl rfl <|
    V_aload_n (tat ok_X8_text_0 (i := 28) (q := 61) rfl rfl) 1 rfl rfl <|
    V_getR (tat ok_X8_text_0 (i := 29) (q := 64) rfl rfl) fk_X8_49 rfl rfl <|
    V_getR (tat ok_X8_text_0 (i := 30) (q := 67) rfl rfl) fk_X8_110 rfl rfl <|
    V_cv1v (ct_X0_become (u2 (p1 (F_X0_become (u2 (u2 (p1 (p2 v1)) 0 13 ((p1 (p2 v1)) 11 3)) 9 0 0) (p2 (p2 v1)) 1 12)) 1 0 1) (p2 (F_X0_become (u2 (u2 (p1 (p2 v1)) 0 13 ((p1 (p2 v1)) 11 3)) 9 0 0) (p2 (p2 v1)) 1 12)) 2 13 rfl rfl) mo_X0_become (tat ok_X8_text_0 (i := 31) (q := 70) rfl rfl) ml_X8_102 rfl ⟨by decide, _, rfl, rfl⟩ ⟨(Nat.le_of_ble_eq_true rfl), (Nat.le_of_ble_eq_true rfl)⟩ ⟨(Nat.le_of_ble_eq_true rfl), (Nat.le_of_ble_eq_true rfl)⟩ (Nat.le_of_ble_eq_true rfl) <|
    V_aload_n (tat ok_X8_text_0 (i := 32) (q := 71) rfl rfl) 1 rfl rfl <|
    V_getR (tat ok_X8_text_0 (i := 33) (q := 74) rfl rfl) fk_X8_33 rfl rfl <|
    V_aload_n (tat ok_X8_text_0 (i := 34) (q := 75) rfl rfl) 1 rfl rfl <|
    V_getR (tat ok_X8_text_0 (i := 35) (q := 78) rfl rfl) fk_X8_49 rfl rfl <|
    V_getR (tat ok_X8_text_0 (i := 36) (q := 81) rfl rfl) fk_X8_113 rfl rfl <|
    oP_case (jx (P := oP P) kk (Eq.trans (ob e1) (if_pos c2))) (fun v3 e3 _ => V_cv1v (ct_X1_become (p1 (F_X0_become (u2 (p1 (F_X0_become (u2 (u2 (p1 (p2 v1)) 0 13 ((p1 (p2 v1)) 11 3)) 9 0 0) (p2 (p2 v1)) 1 12)) 1 0 1) (p2 (F_X0_become (u2 (u2 (p1 (p2 v1)) 0 13 ((p1 (p2 v1)) 11 3)) 9 0 0) (p2 (p2 v1)) 1 12)) 2 13)) (p2 (F_X0_become (u2 (p1 (F_X0_become (u2 (u2 (p1 (p2 v1)) 0 13 ((p1 (p2 v1)) 11 3)) 9 0 0) (p2 (p2 v1)) 1 12)) 1 0 1) (p2 (F_X0_become (u2 (u2 (p1 (p2 v1)) 0 13 ((p1 (p2 v1)) 11 3)) 9 0 0) (p2 (p2 v1)) 1 12)) 2 13)) 6 14 (⟨rfl, rfl, rfl, rfl, rfl⟩) (⟨rfl, rfl, rfl, rfl, rfl⟩) e3) mo_X1_become (tat ok_X8_text_0 (i := 37) (q := 84) rfl rfl) ml_X8_114 rfl ⟨by decide, _, rfl, rfl⟩ ⟨(Nat.le_of_ble_eq_true rfl), (Nat.le_of_ble_eq_true rfl)⟩ ⟨(Nat.le_of_ble_eq_true rfl), (Nat.le_of_ble_eq_true rfl)⟩ (Nat.le_of_ble_eq_true rfl) <|
    V_aload_n (tat ok_X8_text_0 (i := 38) (q := 85) rfl rfl) 1 rfl rfl <|
    V_getR (tat ok_X8_text_0 (i := 39) (q := 88) rfl rfl) fk_X8_21 rfl rfl <|
    V_iconst (tat ok_X8_text_1 (i := 0) (q := 89) rfl rfl) ic_0 <|
    V_putZ (tat ok_X8_text_1 (i := 1) (q := 92) rfl rfl) fk_X8_106 rfl rfl rfl <|
    V_aload_n (tat ok_X8_text_1 (i := 2) (q := 93) rfl rfl) 1 rfl rfl <|
    V_getR (tat ok_X8_text_1 (i := 3) (q := 96) rfl rfl) fk_X8_24 rfl rfl <|
    V_iconst (tat ok_X8_text_1 (i := 4) (q := 97) rfl rfl) ic_0 <|
    V_putZ (tat ok_X8_text_1 (i := 5) (q := 100) rfl rfl) fk_X8_106 rfl rfl rfl <|
    V_pick [1, 0] rfl (V_X8_text_100  hr (jx (P := oP P) kk (Eq.trans (ob e1) (Eq.trans (if_pos c2) (ob e3))))))))
theorem ct_X8_text  (I : WI) (L : WL)  {v : (Int32 × WI × WL)} (h : (F_X8_text I L) = some v) : Ct x_X8_text 10 [.ref 0] ly0 I L R0 0 0 (some (.int (p1 v)), ly0, (p1 (p2 v)), (p2 (p2 v)), R0) :=
  Ct_of_V mo_X8_text.1 (Nat.le_of_ble_eq_true rfl) (V_X8_text (P := fun x => x = v)  (fun _ e => by rw [e]) (by rw [h]; exact rfl))
def F_X8_fault (I : WI) : Int32 :=
  (I 0 13)
theorem V_X8_fault  {I : WI} {L : WL}   {P : Int32 → Prop} {t : Tg} (hr : ∀ v, P v → t = (some (.int v), ly0, I, L, R0)) (kk : P (F_X8_fault I)) : V (zM x_X8_fault 1 0 0 t) 0 [(0, .ref 0)] [] ly0 I L R0 0 0 :=
  V_aload_n (tat ok_X8_fault_0 (i := 0) (q := 1) rfl rfl) 0 rfl rfl <|
    V_getI (tat ok_X8_fault_0 (i := 1) (q := 4) rfl rfl) fk_X8_96 rfl <|
    V_iret (tat ok_X8_fault_0 (i := 2) (q := 5) rfl rfl) _ rfl (nar_int _) (hr (I 0 13) (jx (P := P) kk rfl)) ⟨(Nat.le_of_ble_eq_true rfl), (Nat.le_of_ble_eq_true rfl)⟩
theorem ct_X8_fault  (I : WI) (L : WL)  : Ct x_X8_fault 1 [.ref 0] ly0 I L R0 0 0 (some (.int (F_X8_fault I)), ly0, I, L, R0) :=
  Ct_of_V mo_X8_fault.1 (Nat.le_of_ble_eq_true rfl) (V_X8_fault (P := fun x => x = (F_X8_fault I))  (fun _ e => by rw [e]) rfl)
def F_X8_rule_67 (I : WI) (a1 : Int32) (s0 : Int32) : Int32 :=
  s0
theorem V_X8_rule_67  {I : WI} {L : WL} {a1 : Int32} {s0 : Int32} {P : Int32 → Prop} {t : Tg} (hs0 : bz s0 = s0) (hr : ∀ v, P v → t = (some (.int v), ly0, I, L, R0)) (kk : P (F_X8_rule_67 I a1 s0)) : V (zM x_X8_rule 2 0 0 t) 67 [(0, .ref 0), (1, .int a1)] [.int s0] ly0 I L R0 0 0 :=
  V_iret (tat ok_X8_rule_0 (i := 17) (q := 68) rfl rfl) _ rfl (nar_int _) (hr s0 (jx (P := P) kk rfl)) ⟨(Nat.le_of_ble_eq_true rfl), (Nat.le_of_ble_eq_true rfl)⟩
def F_X8_rule (I : WI) (a1 : Int32) : Int32 :=
  (if a1 = 0 then (I 1 1) else (if a1 = 1 then (I 1 2) else (if a1 = 2 then (if (bz (I 2 0)) = 0 then (F_X8_rule_67 I a1 0) else (F_X8_rule_67 I a1 1)) else (if a1 = 3 then (I 6 0) else (if a1 = 4 then (F_X0_linesOf I 1 2) else (-1))))))
theorem V_X8_rule  {I : WI} {L : WL} {a1 : Int32}  {P : Int32 → Prop} {t : Tg} (hr : ∀ v, P v → t = (some (.int v), ly0, I, L, R0)) (kk : P (F_X8_rule I a1)) : V (zM x_X8_rule 2 0 0 t) 0 [(0, .ref 0), (1, .int a1)] [] ly0 I L R0 0 0 :=
  V_iload_n (tat ok_X8_rule_0 (i := 0) (q := 1) rfl rfl) 1 rfl rfl <|
    (if c1 : a1 = 0 then V_tswJ (tgt := 36) (off := 35) 0 (tat ok_X8_rule_0 (i := 1) (q := 36) rfl rfl) (swj c1) ⟨rfl, by decide⟩ rfl (V_aload_n (tat ok_X8_rule_0 (i := 2) (q := 37) rfl rfl) 0 rfl rfl <|
    V_getR (tat ok_X8_rule_0 (i := 3) (q := 40) rfl rfl) fk_X8_14 rfl rfl <|
    V_getI (tat ok_X8_rule_0 (i := 4) (q := 43) rfl rfl) fk_X8_117 rfl <|
    V_iret (tat ok_X8_rule_0 (i := 5) (q := 44) rfl rfl) _ rfl (nar_int _) (hr (I 1 1) (jx (P := P) kk (if_pos c1))) ⟨(Nat.le_of_ble_eq_true rfl), (Nat.le_of_ble_eq_true rfl)⟩) else (if c2 : a1 = 1 then V_tswJ (tgt := 44) (off := 43) 1 (tat ok_X8_rule_0 (i := 1) (q := 36) rfl rfl) (swj c2) ⟨rfl, by decide⟩ rfl (V_aload_n (tat ok_X8_rule_0 (i := 6) (q := 45) rfl rfl) 0 rfl rfl <|
    V_getR (tat ok_X8_rule_0 (i := 7) (q := 48) rfl rfl) fk_X8_14 rfl rfl <|
    V_getI (tat ok_X8_rule_0 (i := 8) (q := 51) rfl rfl) fk_X8_120 rfl <|
    V_iret (tat ok_X8_rule_0 (i := 9) (q := 52) rfl rfl) _ rfl (nar_int _) (hr (I 1 2) (jx (P := P) kk (Eq.trans (if_neg c1) (if_pos c2)))) ⟨(Nat.le_of_ble_eq_true rfl), (Nat.le_of_ble_eq_true rfl)⟩) else (if c3 : a1 = 2 then V_tswJ (tgt := 52) (off := 51) 2 (tat ok_X8_rule_0 (i := 1) (q := 36) rfl rfl) (swj c3) ⟨rfl, by decide⟩ rfl (V_aload_n (tat ok_X8_rule_0 (i := 10) (q := 53) rfl rfl) 0 rfl rfl <|
    V_getR (tat ok_X8_rule_0 (i := 11) (q := 56) rfl rfl) fk_X8_18 rfl rfl <|
    V_getZ (tat ok_X8_rule_0 (i := 12) (q := 59) rfl rfl) fk_X8_106 rfl <|
    V_if_eq (tat ok_X8_rule_0 (i := 13) (q := 62) rfl rfl) rfl (fun c6 => V_iconst (tat ok_X8_rule_0 (i := 16) (q := 67) rfl rfl) ic_0 <|
    V_X8_rule_67 rfl hr (jx (P := P) kk (Eq.trans (if_neg c1) (Eq.trans (if_neg c2) (Eq.trans (if_pos c3) (if_pos c6)))))) (fun c6 => V_iconst (tat ok_X8_rule_0 (i := 14) (q := 63) rfl rfl) ic_1 <|
    V_goto (tat ok_X8_rule_0 (i := 15) (q := 66) rfl rfl) rfl <|
    V_X8_rule_67 rfl hr (jx (P := P) kk (Eq.trans (if_neg c1) (Eq.trans (if_neg c2) (Eq.trans (if_pos c3) (if_neg c6))))))) else (if c4 : a1 = 3 then V_tswJ (tgt := 68) (off := 67) 3 (tat ok_X8_rule_0 (i := 1) (q := 36) rfl rfl) (swj c4) ⟨rfl, by decide⟩ rfl (V_aload_n (tat ok_X8_rule_0 (i := 18) (q := 69) rfl rfl) 0 rfl rfl <|
    V_getR (tat ok_X8_rule_0 (i := 19) (q := 72) rfl rfl) fk_X8_33 rfl rfl <|
    V_getI (tat ok_X8_rule_0 (i := 20) (q := 75) rfl rfl) fk_X8_123 rfl <|
    V_iret (tat ok_X8_rule_0 (i := 21) (q := 76) rfl rfl) _ rfl (nar_int _) (hr (I 6 0) (jx (P := P) kk (Eq.trans (if_neg c1) (Eq.trans (if_neg c2) (Eq.trans (if_neg c3) (if_pos c4)))))) ⟨(Nat.le_of_ble_eq_true rfl), (Nat.le_of_ble_eq_true rfl)⟩) else (if c5 : a1 = 4 then V_tswJ (tgt := 76) (off := 75) 4 (tat ok_X8_rule_0 (i := 1) (q := 36) rfl rfl) (swj c5) ⟨rfl, by decide⟩ rfl (V_aload_n (tat ok_X8_rule_0 (i := 22) (q := 77) rfl rfl) 0 rfl rfl <|
    V_getR (tat ok_X8_rule_0 (i := 23) (q := 80) rfl rfl) fk_X8_14 rfl rfl <|
    V_iconst (tat ok_X8_rule_0 (i := 24) (q := 81) rfl rfl) ic_2 <|
    V_cv1 (ct_X0_linesOf I L 1 2 rfl) mo_X0_linesOf (tat ok_X8_rule_0 (i := 25) (q := 84) rfl rfl) ml_X8_126 rfl ⟨by decide, _, rfl, rfl⟩ ⟨(Nat.le_of_ble_eq_true rfl), (Nat.le_of_ble_eq_true rfl)⟩ ⟨(Nat.le_of_ble_eq_true rfl), (Nat.le_of_ble_eq_true rfl)⟩ (Nat.le_of_ble_eq_true rfl) <|
    V_iret (tat ok_X8_rule_0 (i := 26) (q := 85) rfl rfl) _ rfl (nar_int _) (hr (F_X0_linesOf I 1 2) (jx (P := P) kk (Eq.trans (if_neg c1) (Eq.trans (if_neg c2) (Eq.trans (if_neg c3) (Eq.trans (if_neg c4) (if_pos c5))))))) ⟨(Nat.le_of_ble_eq_true rfl), (Nat.le_of_ble_eq_true rfl)⟩) else V_tswD (tgt := 85) (tat ok_X8_rule_0 (i := 1) (q := 36) rfl rfl) (sw5 c1 c2 c3 c4 c5) rfl (V_iconst (tat ok_X8_rule_0 (i := 27) (q := 86) rfl rfl) ic_m1 <|
    V_iret (tat ok_X8_rule_0 (i := 28) (q := 87) rfl rfl) _ rfl (nar_int _) (hr (-1) (jx (P := P) kk (Eq.trans (if_neg c1) (Eq.trans (if_neg c2) (Eq.trans (if_neg c3) (Eq.trans (if_neg c4) (if_neg c5))))))) ⟨(Nat.le_of_ble_eq_true rfl), (Nat.le_of_ble_eq_true rfl)⟩))))))
theorem ct_X8_rule  (I : WI) (L : WL) (a1 : Int32)  : Ct x_X8_rule 2 [.ref 0, .int a1] ly0 I L R0 0 0 (some (.int (F_X8_rule I a1)), ly0, I, L, R0) :=
  Ct_of_V mo_X8_rule.1 (Nat.le_of_ble_eq_true rfl) (V_X8_rule (P := fun x => x = (F_X8_rule I a1))  (fun _ e => by rw [e]) rfl)
def F_X8_day_32 (I : WI) (a1 : Int32) (a2 : Int32) : Int32 :=
  (-1)
theorem V_X8_day_32  {I : WI} {L : WL} {a1 : Int32} {a2 : Int32}  {P : Int32 → Prop} {t : Tg} (hr : ∀ v, P v → t = (some (.int v), ly0, I, L, R0)) (kk : P (F_X8_day_32 I a1 a2)) : V (zM x_X8_day 3 0 0 t) 32 [(0, .ref 0), (1, .int a1), (2, .int a2)] [] ly0 I L R0 0 0 :=
  V_iconst (tat ok_X8_day_0 (i := 16) (q := 33) rfl rfl) ic_m1 <|
    V_iret (tat ok_X8_day_0 (i := 17) (q := 34) rfl rfl) _ rfl (nar_int _) (hr (-1) (jx (P := P) kk rfl)) ⟨(Nat.le_of_ble_eq_true rfl), (Nat.le_of_ble_eq_true rfl)⟩
def F_X8_day_59 (I : WI) (a1 : Int32) (a2 : Int32) (s0 : Int32) : Int32 :=
  s0
theorem V_X8_day_59  {I : WI} {L : WL} {a1 : Int32} {a2 : Int32} {s0 : Int32} {P : Int32 → Prop} {t : Tg} (hr : ∀ v, P v → t = (some (.int v), ly0, I, L, R0)) (kk : P (F_X8_day_59 I a1 a2 s0)) : V (zM x_X8_day 3 0 0 t) 59 [(0, .ref 0), (1, .int a1), (2, .int a2)] [.int s0] ly0 I L R0 0 0 :=
  V_iret (tat ok_X8_day_0 (i := 31) (q := 60) rfl rfl) _ rfl (nar_int _) (hr s0 (jx (P := P) kk rfl)) ⟨(Nat.le_of_ble_eq_true rfl), (Nat.le_of_ble_eq_true rfl)⟩
def F_X8_day (I : WI) (a1 : Int32) (a2 : Int32) : Int32 :=
  (if a1 < 0 then (F_X8_day_32 I a1 a2) else (if (I 6 0) ≤ a1 then (F_X8_day_32 I a1 a2) else (if a2 < (-1) then (F_X8_day_32 I a1 a2) else (if a2 < (F_X1_actsOf I 6 a1) then (if a2 = (-1) then (F_X8_day_59 I a1 a2 (F_X1_actsOf I 6 a1)) else (F_X8_day_59 I a1 a2 (F_X1_codeOf I 6 a1 a2))) else (F_X8_day_32 I a1 a2)))))
theorem V_X8_day  {I : WI} {L : WL} {a1 : Int32} {a2 : Int32}  {P : Int32 → Prop} {t : Tg} (hr : ∀ v, P v → t = (some (.int v), ly0, I, L, R0)) (kk : P (F_X8_day I a1 a2)) : V (zM x_X8_day 3 0 0 t) 0 [(0, .ref 0), (1, .int a1), (2, .int a2)] [] ly0 I L R0 0 0 :=
  V_iload_n (tat ok_X8_day_0 (i := 0) (q := 1) rfl rfl) 1 rfl rfl <|
    V_if_lt (tat ok_X8_day_0 (i := 1) (q := 4) rfl rfl) rfl (fun c1 => V_X8_day_32  hr (jx (P := P) kk (if_pos c1))) (fun c1 => V_iload_n (tat ok_X8_day_0 (i := 2) (q := 5) rfl rfl) 1 rfl rfl <|
    V_aload_n (tat ok_X8_day_0 (i := 3) (q := 6) rfl rfl) 0 rfl rfl <|
    V_getR (tat ok_X8_day_0 (i := 4) (q := 9) rfl rfl) fk_X8_33 rfl rfl <|
    V_getI (tat ok_X8_day_0 (i := 5) (q := 12) rfl rfl) fk_X8_123 rfl <|
    V_icmp_ge (tat ok_X8_day_0 (i := 6) (q := 15) rfl rfl) rfl (fun c2 => V_X8_day_32  hr (jx (P := P) kk (Eq.trans (if_neg c1) (if_pos c2)))) (fun c2 => V_iload_n (tat ok_X8_day_0 (i := 7) (q := 16) rfl rfl) 2 rfl rfl <|
    V_iconst (tat ok_X8_day_0 (i := 8) (q := 17) rfl rfl) ic_m1 <|
    V_icmp_lt (tat ok_X8_day_0 (i := 9) (q := 20) rfl rfl) rfl (fun c3 => V_X8_day_32  hr (jx (P := P) kk (Eq.trans (if_neg c1) (Eq.trans (if_neg c2) (if_pos c3))))) (fun c3 => V_iload_n (tat ok_X8_day_0 (i := 10) (q := 21) rfl rfl) 2 rfl rfl <|
    V_aload_n (tat ok_X8_day_0 (i := 11) (q := 22) rfl rfl) 0 rfl rfl <|
    V_getR (tat ok_X8_day_0 (i := 12) (q := 25) rfl rfl) fk_X8_33 rfl rfl <|
    V_iload_n (tat ok_X8_day_0 (i := 13) (q := 26) rfl rfl) 1 rfl rfl <|
    V_cv1 (ct_X1_actsOf I L 6 a1 (⟨rfl, rfl, rfl, rfl, rfl⟩)) mo_X1_actsOf (tat ok_X8_day_0 (i := 14) (q := 29) rfl rfl) ml_X8_130 rfl ⟨by decide, _, rfl, rfl⟩ ⟨(Nat.le_of_ble_eq_true rfl), (Nat.le_of_ble_eq_true rfl)⟩ ⟨(Nat.le_of_ble_eq_true rfl), (Nat.le_of_ble_eq_true rfl)⟩ (Nat.le_of_ble_eq_true rfl) <|
    V_icmp_lt (tat ok_X8_day_0 (i := 15) (q := 32) rfl rfl) rfl (fun c4 => V_iload_n (tat ok_X8_day_0 (i := 18) (q := 35) rfl rfl) 2 rfl rfl <|
    V_iconst (tat ok_X8_day_0 (i := 19) (q := 36) rfl rfl) ic_m1 <|
    V_icmp_ne (tat ok_X8_day_0 (i := 20) (q := 39) rfl rfl) rfl (fun c5 => V_aload_n (tat ok_X8_day_0 (i := 26) (q := 51) rfl rfl) 0 rfl rfl <|
    V_getR (tat ok_X8_day_0 (i := 27) (q := 54) rfl rfl) fk_X8_33 rfl rfl <|
    V_iload_n (tat ok_X8_day_0 (i := 28) (q := 55) rfl rfl) 1 rfl rfl <|
    V_iload_n (tat ok_X8_day_0 (i := 29) (q := 56) rfl rfl) 2 rfl rfl <|
    V_cv2 (ct_X1_codeOf I L 6 a1 a2 (⟨rfl, rfl, rfl, rfl, rfl⟩)) mo_X1_codeOf (tat ok_X8_day_0 (i := 30) (q := 59) rfl rfl) ml_X8_133 rfl ⟨by decide, _, rfl, rfl⟩ ⟨(Nat.le_of_ble_eq_true rfl), (Nat.le_of_ble_eq_true rfl)⟩ ⟨(Nat.le_of_ble_eq_true rfl), (Nat.le_of_ble_eq_true rfl)⟩ (Nat.le_of_ble_eq_true rfl) <|
    V_X8_day_59  hr (jx (P := P) kk (Eq.trans (if_neg c1) (Eq.trans (if_neg c2) (Eq.trans (if_neg c3) (Eq.trans (if_pos c4) (if_neg c5))))))) (fun c5 => V_aload_n (tat ok_X8_day_0 (i := 21) (q := 40) rfl rfl) 0 rfl rfl <|
    V_getR (tat ok_X8_day_0 (i := 22) (q := 43) rfl rfl) fk_X8_33 rfl rfl <|
    V_iload_n (tat ok_X8_day_0 (i := 23) (q := 44) rfl rfl) 1 rfl rfl <|
    V_cv1 (ct_X1_actsOf I L 6 a1 (⟨rfl, rfl, rfl, rfl, rfl⟩)) mo_X1_actsOf (tat ok_X8_day_0 (i := 24) (q := 47) rfl rfl) ml_X8_130 rfl ⟨by decide, _, rfl, rfl⟩ ⟨(Nat.le_of_ble_eq_true rfl), (Nat.le_of_ble_eq_true rfl)⟩ ⟨(Nat.le_of_ble_eq_true rfl), (Nat.le_of_ble_eq_true rfl)⟩ (Nat.le_of_ble_eq_true rfl) <|
    V_goto (tat ok_X8_day_0 (i := 25) (q := 50) rfl rfl) rfl <|
    V_X8_day_59  hr (jx (P := P) kk (Eq.trans (if_neg c1) (Eq.trans (if_neg c2) (Eq.trans (if_neg c3) (Eq.trans (if_pos c4) (if_pos c5)))))))) (fun c4 => V_X8_day_32  hr (jx (P := P) kk (Eq.trans (if_neg c1) (Eq.trans (if_neg c2) (Eq.trans (if_neg c3) (if_neg c4)))))))))
theorem ct_X8_day  (I : WI) (L : WL) (a1 : Int32) (a2 : Int32)  : Ct x_X8_day 3 [.ref 0, .int a1, .int a2] ly0 I L R0 0 0 (some (.int (F_X8_day I a1 a2)), ly0, I, L, R0) :=
  Ct_of_V mo_X8_day.1 (Nat.le_of_ble_eq_true rfl) (V_X8_day (P := fun x => x = (F_X8_day I a1 a2))  (fun _ e => by rw [e]) rfl)
def F_X8_cloth_38 (I : WI) (L : WL) (a1 : Int32) (s0 : Int64) : Int64 :=
  s0
theorem V_X8_cloth_38  {I : WI} {L : WL} {a1 : Int32} {s0 : Int64} {P : Int64 → Prop} {t : Tg} (hr : ∀ v, P v → t = (some (.long v), ly0, I, L, R0)) (kk : P (F_X8_cloth_38 I L a1 s0)) : V (zM x_X8_cloth 1 0 0 t) 38 [(0, .ref 0), (1, .int a1)] [.long s0] ly0 I L R0 0 0 :=
  V_lret (tat ok_X8_cloth_0 (i := 18) (q := 39) rfl rfl) rfl (hr s0 (jx (P := P) kk rfl)) ⟨(Nat.le_of_ble_eq_true rfl), (Nat.le_of_ble_eq_true rfl)⟩
def F_X8_cloth_37 (I : WI) (L : WL) (a1 : Int32) : Int64 :=
  (F_X8_cloth_38 I L a1 0)
theorem V_X8_cloth_37  {I : WI} {L : WL} {a1 : Int32}  {P : Int64 → Prop} {t : Tg} (hr : ∀ v, P v → t = (some (.long v), ly0, I, L, R0)) (kk : P (F_X8_cloth_37 I L a1)) : V (zM x_X8_cloth 1 0 0 t) 37 [(0, .ref 0), (1, .int a1)] [] ly0 I L R0 0 0 :=
  V_lconst (v := 0) (tat ok_X8_cloth_0 (i := 17) (q := 38) rfl rfl) rfl <|
    V_X8_cloth_38  hr (jx (P := P) kk rfl)
def F_X8_cloth (I : WI) (L : WL) (a1 : Int32) : Int64 :=
  (if a1 = 0 then (L 1 3) else (if a1 = 1 then (if (bz (I 2 0)) = 0 then (F_X8_cloth_37 I L a1) else (F_X8_cloth_38 I L a1 (L 2 3))) else (F_X8_cloth_37 I L a1)))
theorem V_X8_cloth  {I : WI} {L : WL} {a1 : Int32}  {P : Int64 → Prop} {t : Tg} (hr : ∀ v, P v → t = (some (.long v), ly0, I, L, R0)) (kk : P (F_X8_cloth I L a1)) : V (zM x_X8_cloth 1 0 0 t) 0 [(0, .ref 0), (1, .int a1)] [] ly0 I L R0 0 0 :=
  V_iload_n (tat ok_X8_cloth_0 (i := 0) (q := 1) rfl rfl) 1 rfl rfl <|
    V_if_ne (tat ok_X8_cloth_0 (i := 1) (q := 4) rfl rfl) rfl (fun c1 => V_iload_n (tat ok_X8_cloth_0 (i := 6) (q := 13) rfl rfl) 1 rfl rfl <|
    V_iconst (tat ok_X8_cloth_0 (i := 7) (q := 14) rfl rfl) ic_1 <|
    V_icmp_ne (tat ok_X8_cloth_0 (i := 8) (q := 17) rfl rfl) rfl (fun c2 => V_X8_cloth_37  hr (jx (P := P) kk (Eq.trans (if_neg c1) (if_neg c2)))) (fun c2 => V_aload_n (tat ok_X8_cloth_0 (i := 9) (q := 18) rfl rfl) 0 rfl rfl <|
    V_getR (tat ok_X8_cloth_0 (i := 10) (q := 21) rfl rfl) fk_X8_18 rfl rfl <|
    V_getZ (tat ok_X8_cloth_0 (i := 11) (q := 24) rfl rfl) fk_X8_106 rfl <|
    V_if_eq (tat ok_X8_cloth_0 (i := 12) (q := 27) rfl rfl) rfl (fun c3 => V_X8_cloth_37  hr (jx (P := P) kk (Eq.trans (if_neg c1) (Eq.trans (if_pos c2) (if_pos c3))))) (fun c3 => V_aload_n (tat ok_X8_cloth_0 (i := 13) (q := 28) rfl rfl) 0 rfl rfl <|
    V_getR (tat ok_X8_cloth_0 (i := 14) (q := 31) rfl rfl) fk_X8_18 rfl rfl <|
    V_getL (tat ok_X8_cloth_0 (i := 15) (q := 34) rfl rfl) fk_X8_137 rfl <|
    V_goto (tat ok_X8_cloth_0 (i := 16) (q := 37) rfl rfl) rfl <|
    V_X8_cloth_38  hr (jx (P := P) kk (Eq.trans (if_neg c1) (Eq.trans (if_pos c2) (if_neg c3))))))) (fun c1 => V_aload_n (tat ok_X8_cloth_0 (i := 2) (q := 5) rfl rfl) 0 rfl rfl <|
    V_getR (tat ok_X8_cloth_0 (i := 3) (q := 8) rfl rfl) fk_X8_14 rfl rfl <|
    V_getL (tat ok_X8_cloth_0 (i := 4) (q := 11) rfl rfl) fk_X8_137 rfl <|
    V_lret (tat ok_X8_cloth_0 (i := 5) (q := 12) rfl rfl) rfl (hr (L 1 3) (jx (P := P) kk (if_pos c1))) ⟨(Nat.le_of_ble_eq_true rfl), (Nat.le_of_ble_eq_true rfl)⟩)
theorem ct_X8_cloth  (I : WI) (L : WL) (a1 : Int32)  : Ct x_X8_cloth 1 [.ref 0, .int a1] ly0 I L R0 0 0 (some (.long (F_X8_cloth I L a1)), ly0, I, L, R0) :=
  Ct_of_V mo_X8_cloth.1 (Nat.le_of_ble_eq_true rfl) (V_X8_cloth (P := fun x => x = (F_X8_cloth I L a1))  (fun _ e => by rw [e]) rfl)
def F_X8_square_25 (I : WI) (L : WL) (a1 : Int32) (a2 : Int32) (s0 : Int32) : Int32 :=
  s0
theorem V_X8_square_25  {I : WI} {L : WL} {a1 : Int32} {a2 : Int32} {s0 : Int32} {P : Int32 → Prop} {t : Tg} (hr : ∀ v, P v → t = (some (.int v), ly0, I, L, R0)) (kk : P (F_X8_square_25 I L a1 a2 s0)) : V (zM x_X8_square 2 0 0 t) 25 [(0, .ref 0), (1, .int a1), (2, .int a2)] [.int s0] ly0 I L R0 0 0 :=
  V_iret (tat ok_X8_square_0 (i := 13) (q := 26) rfl rfl) _ rfl (nar_int _) (hr s0 (jx (P := P) kk rfl)) ⟨(Nat.le_of_ble_eq_true rfl), (Nat.le_of_ble_eq_true rfl)⟩
def F_X8_square (I : WI) (L : WL) (a1 : Int32) (a2 : Int32) : Int32 :=
  (if (F_X0_hasSquare I 1 a1 a2) = 0 then (F_X8_square_25 I L a1 a2 (-1)) else (F_X8_square_25 I L a1 a2 (F_X0_squareAt L 1 a1 a2)))
theorem V_X8_square  {I : WI} {L : WL} {a1 : Int32} {a2 : Int32}  {P : Int32 → Prop} {t : Tg} (hr : ∀ v, P v → t = (some (.int v), ly0, I, L, R0)) (kk : P (F_X8_square I L a1 a2)) : V (zM x_X8_square 2 0 0 t) 0 [(0, .ref 0), (1, .int a1), (2, .int a2)] [] ly0 I L R0 0 0 :=
  V_aload_n (tat ok_X8_square_0 (i := 0) (q := 1) rfl rfl) 0 rfl rfl <|
    V_getR (tat ok_X8_square_0 (i := 1) (q := 4) rfl rfl) fk_X8_14 rfl rfl <|
    V_iload_n (tat ok_X8_square_0 (i := 2) (q := 5) rfl rfl) 1 rfl rfl <|
    V_iload_n (tat ok_X8_square_0 (i := 3) (q := 6) rfl rfl) 2 rfl rfl <|
    V_cv2 (ct_X0_hasSquare I L 1 a1 a2 rfl) mo_X0_hasSquare (tat ok_X8_square_0 (i := 4) (q := 9) rfl rfl) ml_X8_141 rfl ⟨by decide, _, rfl, rfl⟩ ⟨(Nat.le_of_ble_eq_true rfl), (Nat.le_of_ble_eq_true rfl)⟩ ⟨(Nat.le_of_ble_eq_true rfl), (Nat.le_of_ble_eq_true rfl)⟩ (Nat.le_of_ble_eq_true rfl) <|
    V_if_eq (tat ok_X8_square_0 (i := 5) (q := 12) rfl rfl) rfl (fun c1 => V_iconst (tat ok_X8_square_0 (i := 12) (q := 25) rfl rfl) ic_m1 <|
    V_X8_square_25  hr (jx (P := P) kk (if_pos c1))) (fun c1 => V_aload_n (tat ok_X8_square_0 (i := 6) (q := 13) rfl rfl) 0 rfl rfl <|
    V_getR (tat ok_X8_square_0 (i := 7) (q := 16) rfl rfl) fk_X8_14 rfl rfl <|
    V_iload_n (tat ok_X8_square_0 (i := 8) (q := 17) rfl rfl) 1 rfl rfl <|
    V_iload_n (tat ok_X8_square_0 (i := 9) (q := 18) rfl rfl) 2 rfl rfl <|
    V_cv2 (ct_X0_squareAt I L 1 a1 a2 rfl) mo_X0_squareAt (tat ok_X8_square_0 (i := 10) (q := 21) rfl rfl) ml_X8_145 rfl ⟨by decide, _, rfl, rfl⟩ ⟨(Nat.le_of_ble_eq_true rfl), (Nat.le_of_ble_eq_true rfl)⟩ ⟨(Nat.le_of_ble_eq_true rfl), (Nat.le_of_ble_eq_true rfl)⟩ (Nat.le_of_ble_eq_true rfl) <|
    V_goto (tat ok_X8_square_0 (i := 11) (q := 24) rfl rfl) rfl <|
    V_X8_square_25  hr (jx (P := P) kk (if_neg c1)))
theorem ct_X8_square  (I : WI) (L : WL) (a1 : Int32) (a2 : Int32)  : Ct x_X8_square 2 [.ref 0, .int a1, .int a2] ly0 I L R0 0 0 (some (.int (F_X8_square I L a1 a2)), ly0, I, L, R0) :=
  Ct_of_V mo_X8_square.1 (Nat.le_of_ble_eq_true rfl) (V_X8_square (P := fun x => x = (F_X8_square I L a1 a2))  (fun _ e => by rw [e]) rfl)
def F_X8_paint_26 (I : WI) (L : WL) (a1 : Int32) (a2 : Int32) (a3 : Int32) (s0 : Int32) : (Int32 × WL) :=
  (s0, L)
theorem V_X8_paint_26  {I : WI} {L : WL} {a1 : Int32} {a2 : Int32} {a3 : Int32} {s0 : Int32} {P : (Int32 × WL) → Prop} {t : Tg} (hr : ∀ v, P v → t = (some (.int (p1 v)), ly0, I, (p2 v), R0)) (kk : P (F_X8_paint_26 I L a1 a2 a3 s0)) : V (zM x_X8_paint 3 0 0 t) 26 [(0, .ref 0), (1, .int a1), (2, .int a2), (3, .int a3)] [.int s0] ly0 I L R0 0 0 :=
  V_iret (tat ok_X8_paint_0 (i := 14) (q := 27) rfl rfl) _ rfl (nar_int _) (hr (s0, L) (jx (P := P) kk rfl)) ⟨(Nat.le_of_ble_eq_true rfl), (Nat.le_of_ble_eq_true rfl)⟩
def F_X8_paint (I : WI) (L : WL) (a1 : Int32) (a2 : Int32) (a3 : Int32) : (Int32 × WL) :=
  (if (F_X0_hasSquare I 1 a1 a2) = 0 then (F_X8_paint_26 I L a1 a2 a3 (-1)) else (F_X8_paint_26 I (p2 (F_X0_colour L 1 a1 a2 a3)) a1 a2 a3 (p1 (F_X0_colour L 1 a1 a2 a3))))
theorem V_X8_paint  {I : WI} {L : WL} {a1 : Int32} {a2 : Int32} {a3 : Int32}  {P : (Int32 × WL) → Prop} {t : Tg} (hr : ∀ v, P v → t = (some (.int (p1 v)), ly0, I, (p2 v), R0)) (kk : P (F_X8_paint I L a1 a2 a3)) : V (zM x_X8_paint 3 0 0 t) 0 [(0, .ref 0), (1, .int a1), (2, .int a2), (3, .int a3)] [] ly0 I L R0 0 0 :=
  V_aload_n (tat ok_X8_paint_0 (i := 0) (q := 1) rfl rfl) 0 rfl rfl <|
    V_getR (tat ok_X8_paint_0 (i := 1) (q := 4) rfl rfl) fk_X8_14 rfl rfl <|
    V_iload_n (tat ok_X8_paint_0 (i := 2) (q := 5) rfl rfl) 1 rfl rfl <|
    V_iload_n (tat ok_X8_paint_0 (i := 3) (q := 6) rfl rfl) 2 rfl rfl <|
    V_cv2 (ct_X0_hasSquare I L 1 a1 a2 rfl) mo_X0_hasSquare (tat ok_X8_paint_0 (i := 4) (q := 9) rfl rfl) ml_X8_141 rfl ⟨by decide, _, rfl, rfl⟩ ⟨(Nat.le_of_ble_eq_true rfl), (Nat.le_of_ble_eq_true rfl)⟩ ⟨(Nat.le_of_ble_eq_true rfl), (Nat.le_of_ble_eq_true rfl)⟩ (Nat.le_of_ble_eq_true rfl) <|
    V_if_eq (tat ok_X8_paint_0 (i := 5) (q := 12) rfl rfl) rfl (fun c1 => V_iconst (tat ok_X8_paint_0 (i := 13) (q := 26) rfl rfl) ic_m1 <|
    V_X8_paint_26  hr (jx (P := P) kk (if_pos c1))) (fun c1 => V_aload_n (tat ok_X8_paint_0 (i := 6) (q := 13) rfl rfl) 0 rfl rfl <|
    V_getR (tat ok_X8_paint_0 (i := 7) (q := 16) rfl rfl) fk_X8_14 rfl rfl <|
    V_iload_n (tat ok_X8_paint_0 (i := 8) (q := 17) rfl rfl) 1 rfl rfl <|
    V_iload_n (tat ok_X8_paint_0 (i := 9) (q := 18) rfl rfl) 2 rfl rfl <|
    V_iload_n (tat ok_X8_paint_0 (i := 10) (q := 19) rfl rfl) 3 rfl rfl <|
    V_cv3 (ct_X0_colour I L 1 a1 a2 a3 rfl) mo_X0_colour (tat ok_X8_paint_0 (i := 11) (q := 22) rfl rfl) ml_X8_148 rfl ⟨by decide, _, rfl, rfl⟩ ⟨(Nat.le_of_ble_eq_true rfl), (Nat.le_of_ble_eq_true rfl)⟩ ⟨(Nat.le_of_ble_eq_true rfl), (Nat.le_of_ble_eq_true rfl)⟩ (Nat.le_of_ble_eq_true rfl) <|
    V_goto (tat ok_X8_paint_0 (i := 12) (q := 25) rfl rfl) rfl <|
    V_X8_paint_26  hr (jx (P := P) kk (if_neg c1)))
theorem ct_X8_paint  (I : WI) (L : WL) (a1 : Int32) (a2 : Int32) (a3 : Int32)  : Ct x_X8_paint 3 [.ref 0, .int a1, .int a2, .int a3] ly0 I L R0 0 0 (some (.int (p1 (F_X8_paint I L a1 a2 a3))), ly0, I, (p2 (F_X8_paint I L a1 a2 a3)), R0) :=
  Ct_of_V mo_X8_paint.1 (Nat.le_of_ble_eq_true rfl) (V_X8_paint (P := fun x => x = (F_X8_paint I L a1 a2 a3))  (fun _ e => by rw [e]) rfl)
def F_X8_wish_39 (I : WI) (L : WL) (a1 : Int32) (a2 : Int32) (a3 : Int32) (s0 : Int32) : (Int32 × WL) :=
  (s0, L)
theorem V_X8_wish_39  {I : WI} {L : WL} {a1 : Int32} {a2 : Int32} {a3 : Int32} {s0 : Int32} {P : (Int32 × WL) → Prop} {t : Tg} (hr : ∀ v, P v → t = (some (.int (p1 v)), ly0, I, (p2 v), R0)) (kk : P (F_X8_wish_39 I L a1 a2 a3 s0)) : V (zM x_X8_wish 3 0 0 t) 39 [(0, .ref 0), (1, .int a1), (2, .int a2), (3, .int a3)] [.int s0] ly0 I L R0 0 0 :=
  V_iret (tat ok_X8_wish_0 (i := 20) (q := 40) rfl rfl) _ rfl (nar_int _) (hr (s0, L) (jx (P := P) kk rfl)) ⟨(Nat.le_of_ble_eq_true rfl), (Nat.le_of_ble_eq_true rfl)⟩
def F_X8_wish (I : WI) (L : WL) (a1 : Int32) (a2 : Int32) (a3 : Int32) : (Int32 × WL) :=
  (if (F_X0_hasSquare I 1 a1 a2) = 0 then ((-1), L) else (if (bz (I 2 0)) = 0 then (F_X8_wish_39 I L a1 a2 a3 (-2)) else (F_X8_wish_39 I (p2 (F_X0_colour L 2 a1 a2 a3)) a1 a2 a3 (p1 (F_X0_colour L 2 a1 a2 a3)))))
theorem V_X8_wish  {I : WI} {L : WL} {a1 : Int32} {a2 : Int32} {a3 : Int32}  {P : (Int32 × WL) → Prop} {t : Tg} (hr : ∀ v, P v → t = (some (.int (p1 v)), ly0, I, (p2 v), R0)) (kk : P (F_X8_wish I L a1 a2 a3)) : V (zM x_X8_wish 3 0 0 t) 0 [(0, .ref 0), (1, .int a1), (2, .int a2), (3, .int a3)] [] ly0 I L R0 0 0 :=
  V_aload_n (tat ok_X8_wish_0 (i := 0) (q := 1) rfl rfl) 0 rfl rfl <|
    V_getR (tat ok_X8_wish_0 (i := 1) (q := 4) rfl rfl) fk_X8_14 rfl rfl <|
    V_iload_n (tat ok_X8_wish_0 (i := 2) (q := 5) rfl rfl) 1 rfl rfl <|
    V_iload_n (tat ok_X8_wish_0 (i := 3) (q := 6) rfl rfl) 2 rfl rfl <|
    V_cv2 (ct_X0_hasSquare I L 1 a1 a2 rfl) mo_X0_hasSquare (tat ok_X8_wish_0 (i := 4) (q := 9) rfl rfl) ml_X8_141 rfl ⟨by decide, _, rfl, rfl⟩ ⟨(Nat.le_of_ble_eq_true rfl), (Nat.le_of_ble_eq_true rfl)⟩ ⟨(Nat.le_of_ble_eq_true rfl), (Nat.le_of_ble_eq_true rfl)⟩ (Nat.le_of_ble_eq_true rfl) <|
    V_if_ne (tat ok_X8_wish_0 (i := 5) (q := 12) rfl rfl) rfl (fun c1 => V_aload_n (tat ok_X8_wish_0 (i := 8) (q := 15) rfl rfl) 0 rfl rfl <|
    V_getR (tat ok_X8_wish_0 (i := 9) (q := 18) rfl rfl) fk_X8_18 rfl rfl <|
    V_getZ (tat ok_X8_wish_0 (i := 10) (q := 21) rfl rfl) fk_X8_106 rfl <|
    V_if_eq (tat ok_X8_wish_0 (i := 11) (q := 24) rfl rfl) rfl (fun c2 => V_bipush (tat ok_X8_wish_0 (i := 19) (q := 39) rfl rfl) bp_m2 <|
    V_X8_wish_39  hr (jx (P := P) kk (Eq.trans (if_neg c1) (if_pos c2)))) (fun c2 => V_aload_n (tat ok_X8_wish_0 (i := 12) (q := 25) rfl rfl) 0 rfl rfl <|
    V_getR (tat ok_X8_wish_0 (i := 13) (q := 28) rfl rfl) fk_X8_18 rfl rfl <|
    V_iload_n (tat ok_X8_wish_0 (i := 14) (q := 29) rfl rfl) 1 rfl rfl <|
    V_iload_n (tat ok_X8_wish_0 (i := 15) (q := 30) rfl rfl) 2 rfl rfl <|
    V_iload_n (tat ok_X8_wish_0 (i := 16) (q := 31) rfl rfl) 3 rfl rfl <|
    V_cv3 (ct_X0_colour I L 2 a1 a2 a3 rfl) mo_X0_colour (tat ok_X8_wish_0 (i := 17) (q := 34) rfl rfl) ml_X8_148 rfl ⟨by decide, _, rfl, rfl⟩ ⟨(Nat.le_of_ble_eq_true rfl), (Nat.le_of_ble_eq_true rfl)⟩ ⟨(Nat.le_of_ble_eq_true rfl), (Nat.le_of_ble_eq_true rfl)⟩ (Nat.le_of_ble_eq_true rfl) <|
    V_goto (tat ok_X8_wish_0 (i := 18) (q := 37) rfl rfl) rfl <|
    V_X8_wish_39  hr (jx (P := P) kk (Eq.trans (if_neg c1) (if_neg c2))))) (fun c1 => V_iconst (tat ok_X8_wish_0 (i := 6) (q := 13) rfl rfl) ic_m1 <|
    V_iret (tat ok_X8_wish_0 (i := 7) (q := 14) rfl rfl) _ rfl (nar_int _) (hr ((-1), L) (jx (P := P) kk (if_pos c1))) ⟨(Nat.le_of_ble_eq_true rfl), (Nat.le_of_ble_eq_true rfl)⟩)
theorem ct_X8_wish  (I : WI) (L : WL) (a1 : Int32) (a2 : Int32) (a3 : Int32)  : Ct x_X8_wish 3 [.ref 0, .int a1, .int a2, .int a3] ly0 I L R0 0 0 (some (.int (p1 (F_X8_wish I L a1 a2 a3))), ly0, I, (p2 (F_X8_wish I L a1 a2 a3)), R0) :=
  Ct_of_V mo_X8_wish.1 (Nat.le_of_ble_eq_true rfl) (V_X8_wish (P := fun x => x = (F_X8_wish I L a1 a2 a3))  (fun _ e => by rw [e]) rfl)
def F_X8_act (I : WI) (L : WL) (a1 : Int32) (a2 : Int32) : (Int32 × WL) :=
  (if (F_X0_hasLine I 1 a1 a2) = 0 then ((-1), L) else ((F_X0_darkSquares (u2 L 1 3 ((L 1 3) ^^^ (F_X0_squaresOf I 1 a1 a2))) 1), (u2 L 1 3 ((L 1 3) ^^^ (F_X0_squaresOf I 1 a1 a2)))))
theorem V_X8_act  {I : WI} {L : WL} {a1 : Int32} {a2 : Int32}  {P : (Int32 × WL) → Prop} {t : Tg} (hr : ∀ v, P v → t = (some (.int (p1 v)), ly0, I, (p2 v), R0)) (kk : P (F_X8_act I L a1 a2)) : V (zM x_X8_act 4 0 0 t) 0 [(0, .ref 0), (1, .int a1), (2, .int a2)] [] ly0 I L R0 0 0 :=
  V_aload_n (tat ok_X8_act_0 (i := 0) (q := 1) rfl rfl) 0 rfl rfl <|
    V_getR (tat ok_X8_act_0 (i := 1) (q := 4) rfl rfl) fk_X8_14 rfl rfl <|
    V_iload_n (tat ok_X8_act_0 (i := 2) (q := 5) rfl rfl) 1 rfl rfl <|
    V_iload_n (tat ok_X8_act_0 (i := 3) (q := 6) rfl rfl) 2 rfl rfl <|
    V_cv2 (ct_X0_hasLine I L 1 a1 a2 rfl) mo_X0_hasLine (tat ok_X8_act_0 (i := 4) (q := 9) rfl rfl) ml_X8_152 rfl ⟨by decide, _, rfl, rfl⟩ ⟨(Nat.le_of_ble_eq_true rfl), (Nat.le_of_ble_eq_true rfl)⟩ ⟨(Nat.le_of_ble_eq_true rfl), (Nat.le_of_ble_eq_true rfl)⟩ (Nat.le_of_ble_eq_true rfl) <|
    V_if_ne (tat ok_X8_act_0 (i := 5) (q := 12) rfl rfl) rfl (fun c1 => V_aload_n (tat ok_X8_act_0 (i := 8) (q := 15) rfl rfl) 0 rfl rfl <|
    V_getR (tat ok_X8_act_0 (i := 9) (q := 18) rfl rfl) fk_X8_14 rfl rfl <|
    V_dup (tat ok_X8_act_0 (i := 10) (q := 19) rfl rfl) rfl <|
    V_getL (tat ok_X8_act_0 (i := 11) (q := 22) rfl rfl) fk_X8_137 rfl <|
    V_aload_n (tat ok_X8_act_0 (i := 12) (q := 23) rfl rfl) 0 rfl rfl <|
    V_getR (tat ok_X8_act_0 (i := 13) (q := 26) rfl rfl) fk_X8_14 rfl rfl <|
    V_iload_n (tat ok_X8_act_0 (i := 14) (q := 27) rfl rfl) 1 rfl rfl <|
    V_iload_n (tat ok_X8_act_0 (i := 15) (q := 28) rfl rfl) 2 rfl rfl <|
    V_cv2 (ct_X0_squaresOf I L 1 a1 a2 rfl) mo_X0_squaresOf (tat ok_X8_act_0 (i := 16) (q := 31) rfl rfl) ml_X8_155 rfl ⟨by decide, _, rfl, rfl⟩ ⟨(Nat.le_of_ble_eq_true rfl), (Nat.le_of_ble_eq_true rfl)⟩ ⟨(Nat.le_of_ble_eq_true rfl), (Nat.le_of_ble_eq_true rfl)⟩ (Nat.le_of_ble_eq_true rfl) <|
    V_lxor (tat ok_X8_act_0 (i := 17) (q := 32) rfl rfl) <|
    V_putL (tat ok_X8_act_0 (i := 18) (q := 35) rfl rfl) fk_X8_137 rfl rfl <|
    V_aload_n (tat ok_X8_act_0 (i := 19) (q := 36) rfl rfl) 0 rfl rfl <|
    V_getR (tat ok_X8_act_0 (i := 20) (q := 39) rfl rfl) fk_X8_14 rfl rfl <|
    V_cv0 (ct_X0_darkSquares I (u2 L 1 3 ((L 1 3) ^^^ (F_X0_squaresOf I 1 a1 a2))) 1 rfl) mo_X0_darkSquares (tat ok_X8_act_0 (i := 21) (q := 42) rfl rfl) ml_X8_159 rfl ⟨by decide, _, rfl, rfl⟩ ⟨(Nat.le_of_ble_eq_true rfl), (Nat.le_of_ble_eq_true rfl)⟩ ⟨(Nat.le_of_ble_eq_true rfl), (Nat.le_of_ble_eq_true rfl)⟩ (Nat.le_of_ble_eq_true rfl) <|
    V_iret (tat ok_X8_act_0 (i := 22) (q := 43) rfl rfl) _ rfl (nar_int _) (hr ((F_X0_darkSquares (u2 L 1 3 ((L 1 3) ^^^ (F_X0_squaresOf I 1 a1 a2))) 1), (u2 L 1 3 ((L 1 3) ^^^ (F_X0_squaresOf I 1 a1 a2)))) (jx (P := P) kk (if_neg c1))) ⟨(Nat.le_of_ble_eq_true rfl), (Nat.le_of_ble_eq_true rfl)⟩) (fun c1 => V_iconst (tat ok_X8_act_0 (i := 6) (q := 13) rfl rfl) ic_m1 <|
    V_iret (tat ok_X8_act_0 (i := 7) (q := 14) rfl rfl) _ rfl (nar_int _) (hr ((-1), L) (jx (P := P) kk (if_pos c1))) ⟨(Nat.le_of_ble_eq_true rfl), (Nat.le_of_ble_eq_true rfl)⟩)
