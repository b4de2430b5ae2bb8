def F_X8_feed_23 (I : WI) (a1 : Int64) (s0 : Int32) : (Int32 × WI) :=
  (s0, I)
theorem V_X8_feed_23  {I : WI} {L : WL} {a1 : Int64} {s0 : Int32} {P : (Int32 × WI) → Prop} {t : Tg} (hr : ∀ v, P v → t = (some (.int (p1 v)), ly0, (p2 v), L, R0)) (kk : P (F_X8_feed_23 I a1 s0)) : V (zM x_X8_feed 2 0 0 t) 23 [(0, .ref 0), (1, .long a1)] [.int s0] ly0 I L R0 0 0 :=
  V_iret (tat ok_X8_feed_0 (i := 10) (q := 24) rfl rfl) _ rfl (nar_int _) (hr (s0, I) (jx (P := P) kk rfl)) ⟨(Nat.le_of_ble_eq_true rfl), (Nat.le_of_ble_eq_true rfl)⟩
def F_X8_feed (I : WI) (a1 : Int64) : (Int32 × WI) :=
  (if (p1 (F_X5_add I a1)) = 0 then (F_X8_feed_23 (p2 (F_X5_add I a1)) a1 (-3)) else (F_X8_feed_23 (p2 (F_X5_add I a1)) a1 ((p2 (F_X5_add I a1)) 9 0)))
theorem V_X8_feed  {I : WI} {L : WL} {a1 : Int64}  {P : (Int32 × WI) → Prop} {t : Tg} (hr : ∀ v, P v → t = (some (.int (p1 v)), ly0, (p2 v), L, R0)) (kk : P (F_X8_feed I a1)) : V (zM x_X8_feed 2 0 0 t) 0 [(0, .ref 0), (1, .long a1)] [] ly0 I L R0 0 0 :=
  V_aload_n (tat ok_X8_feed_0 (i := 0) (q := 1) rfl rfl) 0 rfl rfl <|
    V_getR (tat ok_X8_feed_0 (i := 1) (q := 4) rfl rfl) fk_X8_40 rfl rfl <|
    V_lload_n (tat ok_X8_feed_0 (i := 2) (q := 5) rfl rfl) 1 rfl rfl <|
    V_cv1 (ct_X5_add I L a1 ) mo_X5_add (tat ok_X8_feed_0 (i := 3) (q := 8) rfl rfl) ml_X8_81 rfl ⟨by decide, _, rfl, rfl⟩ ⟨(Nat.le_of_ble_eq_true rfl), (Nat.le_of_ble_eq_true rfl)⟩ ⟨(Nat.le_of_ble_eq_true rfl), (Nat.le_of_ble_eq_true rfl)⟩ (Nat.le_of_ble_eq_true rfl) <|
    V_if_eq (tat ok_X8_feed_0 (i := 4) (q := 11) rfl rfl) rfl (fun c1 => V_bipush (tat ok_X8_feed_0 (i := 9) (q := 23) rfl rfl) bp_m3 <|
    V_X8_feed_23  hr (jx (P := P) kk (if_pos c1))) (fun c1 => V_aload_n (tat ok_X8_feed_0 (i := 5) (q := 12) rfl rfl) 0 rfl rfl <|
    V_getR (tat ok_X8_feed_0 (i := 6) (q := 15) rfl rfl) fk_X8_40 rfl rfl <|
    V_getI (tat ok_X8_feed_0 (i := 7) (q := 18) rfl rfl) fk_X8_85 rfl <|
    V_goto (tat ok_X8_feed_0 (i := 8) (q := 21) rfl rfl) rfl <|
    V_X8_feed_23  hr (jx (P := P) kk (if_neg c1)))
theorem ct_X8_feed  (I : WI) (L : WL) (a1 : Int64)  : Ct x_X8_feed 2 [.ref 0, .long a1] ly0 I L R0 0 0 (some (.int (p1 (F_X8_feed I a1))), ly0, (p2 (F_X8_feed I a1)), L, R0) :=
  Ct_of_V mo_X8_feed.1 (Nat.le_of_ble_eq_true rfl) (V_X8_feed (P := fun x => x = (F_X8_feed I a1))  (fun _ e => by rw [e]) rfl)
def F_X8_end_15 (I : WI) (a1 : Int32) : (Int32 × WI) :=
  ((-1), I)
theorem V_X8_end_15  {I : WI} {L : WL} {a1 : Int32}  {P : (Int32 × WI) → Prop} {t : Tg} (hr : ∀ v, P v → t = (some (.int (p1 v)), ly0, (p2 v), L, R0)) (kk : P (F_X8_end_15 I a1)) : V (zM x_X8_end 1 0 0 t) 15 [(0, .ref 0), (1, .int a1)] [] ly0 I L R0 0 0 :=
  V_iconst (tat ok_X8_end_0 (i := 7) (q := 16) rfl rfl) ic_m1 <|
    V_iret (tat ok_X8_end_0 (i := 8) (q := 17) rfl rfl) _ rfl (nar_int _) (hr ((-1), I) (jx (P := P) kk rfl)) ⟨(Nat.le_of_ble_eq_true rfl), (Nat.le_of_ble_eq_true rfl)⟩
def F_X8_end (I : WI) (a1 : Int32) : (Int32 × WI) :=
  (if a1 < 0 then (F_X8_end_15 I a1) else (if a1 ≤ (I 9 0) then ((I 9 0), (u2 I 9 0 a1)) else (F_X8_end_15 I a1)))
theorem V_X8_end  {I : WI} {L : WL} {a1 : Int32}  {P : (Int32 × WI) → Prop} {t : Tg} (hr : ∀ v, P v → t = (some (.int (p1 v)), ly0, (p2 v), L, R0)) (kk : P (F_X8_end I a1)) : V (zM x_X8_end 1 0 0 t) 0 [(0, .ref 0), (1, .int a1)] [] ly0 I L R0 0 0 :=
  V_iload_n (tat ok_X8_end_0 (i := 0) (q := 1) rfl rfl) 1 rfl rfl <|
    V_if_lt (tat ok_X8_end_0 (i := 1) (q := 4) rfl rfl) rfl (fun c1 => V_X8_end_15  hr (jx (P := P) kk (if_pos c1))) (fun c1 => V_iload_n (tat ok_X8_end_0 (i := 2) (q := 5) rfl rfl) 1 rfl rfl <|
    V_aload_n (tat ok_X8_end_0 (i := 3) (q := 6) rfl rfl) 0 rfl rfl <|
    V_getR (tat ok_X8_end_0 (i := 4) (q := 9) rfl rfl) fk_X8_40 rfl rfl <|
    V_getI (tat ok_X8_end_0 (i := 5) (q := 12) rfl rfl) fk_X8_85 rfl <|
    V_icmp_le (tat ok_X8_end_0 (i := 6) (q := 15) rfl rfl) rfl (fun c2 => V_aload_n (tat ok_X8_end_0 (i := 9) (q := 18) rfl rfl) 0 rfl rfl <|
    V_getR (tat ok_X8_end_0 (i := 10) (q := 21) rfl rfl) fk_X8_40 rfl rfl <|
    V_getI (tat ok_X8_end_0 (i := 11) (q := 24) rfl rfl) fk_X8_85 rfl <|
    V_istore_n (lv' := [(2, .int (I 9 0)), (0, .ref 0), (1, .int a1)]) (tat ok_X8_end_0 (i := 12) (q := 25) rfl rfl) rfl (Nat.le_of_ble_eq_true rfl) rfl <|
    V_aload_n (tat ok_X8_end_0 (i := 13) (q := 26) rfl rfl) 1 rfl rfl <|
    V_getR (tat ok_X8_end_0 (i := 14) (q := 29) rfl rfl) fk_X8_40 rfl rfl <|
    V_iload_n (tat ok_X8_end_0 (i := 15) (q := 30) rfl rfl) 2 rfl rfl <|
    V_putI (tat ok_X8_end_0 (i := 16) (q := 33) rfl rfl) fk_X8_85 rfl rfl <|
    V_iload_n (tat ok_X8_end_0 (i := 17) (q := 34) rfl rfl) 0 rfl rfl <|
    V_iret (tat ok_X8_end_0 (i := 18) (q := 35) rfl rfl) _ rfl (nar_int _) (hr ((I 9 0), (u2 I 9 0 a1)) (jx (P := P) kk (Eq.trans (if_neg c1) (if_pos c2)))) ⟨(Nat.le_of_ble_eq_true rfl), (Nat.le_of_ble_eq_true rfl)⟩) (fun c2 => V_X8_end_15  hr (jx (P := P) kk (Eq.trans (if_neg c1) (if_neg c2)))))
theorem ct_X8_end  (I : WI) (L : WL) (a1 : Int32)  : Ct x_X8_end 1 [.ref 0, .int a1] ly0 I L R0 0 0 (some (.int (p1 (F_X8_end I a1))), ly0, (p2 (F_X8_end I a1)), L, R0) :=
  Ct_of_V mo_X8_end.1 (Nat.le_of_ble_eq_true rfl) (V_X8_end (P := fun x => x = (F_X8_end I a1))  (fun _ e => by rw [e]) rfl)
def F_X8_text_100 (I : WI) (L : WL)  (a1 : Int32) : Option (Int32 × WI × WL) :=
  some (a1, I, L)
theorem V_X8_text_100  {I : WI} {L : WL}  {a1 : Int32} {P : (Int32 × WI × WL) → Prop} {t : Tg} (hr : ∀ v, P v → t = (some (.int (p1 v)), ly0, (p1 (p2 v)), (p2 (p2 v)), R0)) : oP P (F_X8_text_100 I L a1) → V (zM x_X8_text 10 0 0 t) 100 [(0, .ref 0), (1, .int a1)] [] ly0 I L R0 0 0 :=
  fun _ =>
  have kq : (oP P (F_X8_text_100 I L a1)) ∧ True := ⟨by assumption, trivial⟩
  V_iload_n (tat ok_X8_text_1 (i := 6) (q := 101) rfl rfl) 1 rfl rfl <|
    V_iret (tat ok_X8_text_1 (i := 7) (q := 102) rfl rfl) _ rfl (nar_int _) (hr (a1, I, L) (jq (P := oP P) kq rfl)) ⟨(Nat.le_of_ble_eq_true rfl), (Nat.le_of_ble_eq_true rfl)⟩
def F_X8_text (I : WI) (L : WL) : Option (Int32 × WI × WL) :=
  (Option.bind (F_X6_takeText I L) (fun v1 => (if ((u2 (u2 (p1 (p2 v1)) 0 13 ((p1 (p2 v1)) 11 3)) 9 0 0) 0 13) = 0 then (Option.bind (F_X1_become (p1 (F_X0_become (u2 (p1 (F_X0_become (u2 (u2 (p1 (p2 v1)) 0 13 ((p1 (p2 v1)) 11 3)) 9 0 0) (p2 (p2 v1)) 1 12)) 1 0 1) (p2 (F_X0_become (u2 (u2 (p1 (p2 v1)) 0 13 ((p1 (p2 v1)) 11 3)) 9 0 0) (p2 (p2 v1)) 1 12)) 2 13)) 6 14) (fun v3 => (F_X8_text_100 (u2 (u2 v3 3 0 0) 4 0 0) (p2 (F_X0_become (u2 (p1 (F_X0_become (u2 (u2 (p1 (p2 v1)) 0 13 ((p1 (p2 v1)) 11 3)) 9 0 0) (p2 (p2 v1)) 1 12)) 1 0 1) (p2 (F_X0_become (u2 (u2 (p1 (p2 v1)) 0 13 ((p1 (p2 v1)) 11 3)) 9 0 0) (p2 (p2 v1)) 1 12)) 2 13)) (p1 v1)))) else (F_X8_text_100 (u2 (u2 (p1 (p2 v1)) 0 13 ((p1 (p2 v1)) 11 3)) 9 0 0) (p2 (p2 v1)) (p1 v1)))))
theorem V_X8_text  {I : WI} {L : WL}   {P : (Int32 × WI × WL) → Prop} {t : Tg} (hr : ∀ v, P v → t = (some (.int (p1 v)), ly0, (p1 (p2 v)), (p2 (p2 v)), R0)) : oP P (F_X8_text I L) → V (zM x_X8_text 10 0 0 t) 0 [(0, .ref 0)] [] ly0 I L R0 0 0 :=
  fun _ =>
  have kq : (oP P (F_X8_text I L)) ∧ True := ⟨by assumption, trivial⟩
  V_aload_n (tat ok_X8_text_0 (i := 0) (q := 1) rfl rfl) 0 rfl rfl <|
    V_getR (tat ok_X8_text_0 (i := 1) (q := 4) rfl rfl) fk_X8_49 rfl rfl <|
    oP_case (jq (P := oP P) kq rfl) (fun v1 e1 _ => V_cv0 (ct_X6_takeText I L   e1) mo_X6_takeText (tat ok_X8_text_0 (i := 2) (q := 7) rfl rfl) ml_X8_89 rfl ⟨by decide, _, rfl, rfl⟩ ⟨(Nat.le_of_ble_eq_true rfl), (Nat.le_of_ble_eq_true rfl)⟩ ⟨(Nat.le_of_ble_eq_true rfl), (Nat.le_of_ble_eq_true rfl)⟩ (Nat.le_of_ble_eq_true rfl) <|
    V_istore_n (lv' := [(1, .int (p1 v1)), (0, .ref 0)]) (tat ok_X8_text_0 (i := 3) (q := 8) rfl rfl) rfl (Nat.le_of_ble_eq_true rfl) rfl <|
    V_aload_n (tat ok_X8_text_0 (i := 4) (q := 9) rfl rfl) 1 rfl rfl <|
    V_aload_n (tat ok_X8_text_0 (i := 5) (q := 10) rfl rfl) 1 rfl rfl <|
    V_getR (tat ok_X8_text_0 (i := 6) (q := 13) rfl rfl) fk_X8_49 rfl rfl <|
    V_getI (tat ok_X8_text_0 (i := 7) (q := 16) rfl rfl) fk_X8_93 rfl <|
    V_putI (tat ok_X8_text_0 (i := 8) (q := 19) rfl rfl) fk_X8_96 rfl rfl <|
    V_aload_n (tat ok_X8_text_0 (i := 9) (q := 20) rfl rfl) 1 rfl rfl <|
    V_getR (tat ok_X8_text_0 (i := 10) (q := 23) rfl rfl) fk_X8_40 rfl rfl <|
    V_iconst (tat ok_X8_text_0 (i := 11) (q := 24) rfl rfl) ic_0 <|
    V_putI (tat ok_X8_text_0 (i := 12) (q := 27) rfl rfl) fk_X8_85 rfl rfl <|
    V_aload_n (tat ok_X8_text_0 (i := 13) (q := 28) rfl rfl) 1 rfl rfl <|
    V_getI (tat ok_X8_text_0 (i := 14) (q := 31) rfl rfl) fk_X8_96 rfl <|
    V_if_ne (tat ok_X8_text_0 (i := 15) (q := 34) rfl rfl) rfl (fun c2 => V_pick [1, 0] rfl (V_X8_text_100  hr (jq (P := oP P) kq (Eq.trans (ob e1) (if_neg c2))))) (fun c2 => V_aload_n (tat ok_X8_text_0 (i := 16) (q := 35) rfl rfl) 1 rfl rfl <|
    V_getR (tat ok_X8_text_0 (i := 17) (q := 38) rfl rfl) fk_X8_14 rfl rfl <|
    V_aload_n (tat ok_X8_text_0 (i := 18) (q := 39) rfl rfl) 1 rfl rfl <|
    V_getR (tat ok_X8_text_0 (i := 19) (q := 42) rfl rfl) fk_X8_49 rfl rfl <|
    V_getR (tat ok_X8_text_0 (i := 20) (q := 45) rfl rfl) fk_X8_99 rfl rfl <|
    V_cv1v (ct_X0_become (u2 (u2 (p1 (p2 v1)) 0 13 ((p1 (p2 v1)) 11 3)) 9 0 0) (p2 (p2 v1)) 1 12 rfl rfl) mo_X0_become (tat ok_X8_text_0 (i := 21) (q := 48) rfl rfl) ml_X8_102 rfl ⟨by decide, _, rfl, rfl⟩ ⟨(Nat.le_of_ble_eq_true rfl), (Nat.le_of_ble_eq_true rfl)⟩ ⟨(Nat.le_of_ble_eq_true rfl), (Nat.le_of_ble_eq_true rfl)⟩ (Nat.le_of_ble_eq_true rfl) <|
    V_aload_n (tat ok_X8_text_0 (i := 22) (q := 49) rfl rfl) 1 rfl rfl <|
    V_getR (tat ok_X8_text_0 (i := 23) (q := 52) rfl rfl) fk_X8_14 rfl rfl <|
    V_iconst (tat ok_X8_text_0 (i := 24) (q := 53) rfl rfl) ic_1 <|
    V_putZ (tat ok_X8_text_0 (i := 25) (q := 56) rfl rfl) fk_X8_106 rfl rfl rfl <|
    V_aload_n (tat ok_X8_text_0 (i := 26) (q := 57) rfl rfl) 1 rfl rfl <|
    V_getR (tat ok_X8_text_0 (i := 27) (q := 60) rfl rfl) fk_X8_18 rfl rfl <|
    V_aload_n (tat ok_X8_text_0 (i := 28) (q := 61) rfl rfl) 1 rfl rfl <|
    V_getR (tat ok_X8_text_0 (i := 29) (q := 64) rfl rfl) fk_X8_49 rfl rfl <|
    V_getR (tat ok_X8_text_0 (i := 30) (q := 67) rfl rfl) fk_X8_110 rfl rfl <|
    V_cv1v (ct_X0_become (u2 (p1 (F_X0_become (u2 (u2 (p1 (p2 v1)) 0 13 ((p1 (p2 v1)) 11 3)) 9 0 0) (p2 (p2 v1)) 1 12)) 1 0 1) (p2 (F_X0_become (u2 (u2 (p1 (p2 v1)) 0 13 ((p1 (p2 v1)) 11 3)) 9 0 0) (p2 (p2 v1)) 1 12)) 2 13 rfl rfl) mo_X0_become (tat ok_X8_text_0 (i := 31) (q := 70) rfl rfl) ml_X8_102 rfl ⟨by decide, _, rfl, rfl⟩ ⟨(Nat.le_of_ble_eq_true rfl), (Nat.le_of_ble_eq_true rfl)⟩ ⟨(Nat.le_of_ble_eq_true rfl), (Nat.le_of_ble_eq_true rfl)⟩ (Nat.le_of_ble_eq_true rfl) <|
    V_aload_n (tat ok_X8_text_0 (i := 32) (q := 71) rfl rfl) 1 rfl rfl <|
    V_getR (tat ok_X8_text_0 (i := 33) (q := 74) rfl rfl) fk_X8_33 rfl rfl <|
    V_aload_n (tat ok_X8_text_0 (i := 34) (q := 75) rfl rfl) 1 rfl rfl <|
    V_getR (tat ok_X8_text_0 (i := 35) (q := 78) rfl rfl) fk_X8_49 rfl rfl <|
    V_getR (tat ok_X8_text_0 (i := 36) (q := 81) rfl rfl) fk_X8_113 rfl rfl <|
    oP_case (jq (P := oP P) kq (Eq.trans (ob e1) (if_pos c2))) (fun v3 e3 _ => V_cv1v (ct_X1_become (p1 (F_X0_become (u2 (p1 (F_X0_become (u2 (u2 (p1 (p2 v1)) 0 13 ((p1 (p2 v1)) 11 3)) 9 0 0) (p2 (p2 v1)) 1 12)) 1 0 1) (p2 (F_X0_become (u2 (u2 (p1 (p2 v1)) 0 13 ((p1 (p2 v1)) 11 3)) 9 0 0) (p2 (p2 v1)) 1 12)) 2 13)) (p2 (F_X0_become (u2 (p1 (F_X0_become (u2 (u2 (p1 (p2 v1)) 0 13 ((p1 (p2 v1)) 11 3)) 9 0 0) (p2 (p2 v1)) 1 12)) 1 0 1) (p2 (F_X0_become (u2 (u2 (p1 (p2 v1)) 0 13 ((p1 (p2 v1)) 11 3)) 9 0 0) (p2 (p2 v1)) 1 12)) 2 13)) 6 14 (⟨rfl, rfl, rfl, rfl, rfl⟩) (⟨rfl, rfl, rfl, rfl, rfl⟩) e3) mo_X1_become (tat ok_X8_text_0 (i := 37) (q := 84) rfl rfl) ml_X8_114 rfl ⟨by decide, _, rfl, rfl⟩ ⟨(Nat.le_of_ble_eq_true rfl), (Nat.le_of_ble_eq_true rfl)⟩ ⟨(Nat.le_of_ble_eq_true rfl), (Nat.le_of_ble_eq_true rfl)⟩ (Nat.le_of_ble_eq_true rfl) <|
    V_aload_n (tat ok_X8_text_0 (i := 38) (q := 85) rfl rfl) 1 rfl rfl <|
    V_getR (tat ok_X8_text_0 (i := 39) (q := 88) rfl rfl) fk_X8_21 rfl rfl <|
    V_iconst (tat ok_X8_text_1 (i := 0) (q := 89) rfl rfl) ic_0 <|
    V_putZ (tat ok_X8_text_1 (i := 1) (q := 92) rfl rfl) fk_X8_106 rfl rfl rfl <|
    V_aload_n (tat ok_X8_text_1 (i := 2) (q := 93) rfl rfl) 1 rfl rfl <|
    V_getR (tat ok_X8_text_1 (i := 3) (q := 96) rfl rfl) fk_X8_24 rfl rfl <|
    V_iconst (tat ok_X8_text_1 (i := 4) (q := 97) rfl rfl) ic_0 <|
    V_putZ (tat ok_X8_text_1 (i := 5) (q := 100) rfl rfl) fk_X8_106 rfl rfl rfl <|
    V_pick [1, 0] rfl (V_X8_text_100  hr (jq (P := oP P) kq (Eq.trans (ob e1) (Eq.trans (if_pos c2) (ob e3))))))))
theorem ct_X8_text  (I : WI) (L : WL)  {v : (Int32 × WI × WL)} (h : (F_X8_text I L) = some v) : Ct x_X8_text 10 [.ref 0] ly0 I L R0 0 0 (some (.int (p1 v)), ly0, (p1 (p2 v)), (p2 (p2 v)), R0) :=
  Ct_of_V mo_X8_text.1 (Nat.le_of_ble_eq_true rfl) (V_X8_text (P := fun x => x = v)  (fun _ e => by rw [e]) (by rw [h]; exact rfl))
def F_X8_fault (I : WI) : Int32 :=
  (I 0 13)
theorem V_X8_fault  {I : WI} {L : WL}   {P : Int32 → Prop} {t : Tg} (hr : ∀ v, P v → t = (some (.int v), ly0, I, L, R0)) (kk : P (F_X8_fault I)) : V (zM x_X8_fault 1 0 0 t) 0 [(0, .ref 0)] [] ly0 I L R0 0 0 :=
  V_aload_n (tat ok_X8_fault_0 (i := 0) (q := 1) rfl rfl) 0 rfl rfl <|
    V_getI (tat ok_X8_fault_0 (i := 1) (q := 4) rfl rfl) fk_X8_96 rfl <|
    V_iret (tat ok_X8_fault_0 (i := 2) (q := 5) rfl rfl) _ rfl (nar_int _) (hr (I 0 13) (jx (P := P) kk rfl)) ⟨(Nat.le_of_ble_eq_true rfl), (Nat.le_of_ble_eq_true rfl)⟩
theorem ct_X8_fault  (I : WI) (L : WL)  : Ct x_X8_fault 1 [.ref 0] ly0 I L R0 0 0 (some (.int (F_X8_fault I)), ly0, I, L, R0) :=
  Ct_of_V mo_X8_fault.1 (Nat.le_of_ble_eq_true rfl) (V_X8_fault (P := fun x => x = (F_X8_fault I))  (fun _ e => by rw [e]) rfl)
def F_X8_rule_67 (I : WI) (a1 : Int32) (s0 : Int32) : Int32 :=
  s0
theorem V_X8_rule_67  {I : WI} {L : WL} {a1 : Int32} {s0 : Int32} {P : Int32 → Prop} {t : Tg} (hs0 : bz s0 = s0) (hr : ∀ v, P v → t = (some (.int v), ly0, I, L, R0)) (kk : P (F_X8_rule_67 I a1 s0)) : V (zM x_X8_rule 2 0 0 t) 67 [(0, .ref 0), (1, .int a1)] [.int s0] ly0 I L R0 0 0 :=
  V_iret (tat ok_X8_rule_0 (i := 17) (q := 68) rfl rfl) _ rfl (nar_int _) (hr s0 (jx (P := P) kk rfl)) ⟨(Nat.le_of_ble_eq_true rfl), (Nat.le_of_ble_eq_true rfl)⟩
def F_X8_rule (I : WI) (a1 : Int32) : Int32 :=
  (if a1 = 0 then (I 1 1) else (if a1 = 1 then (I 1 2) else (if a1 = 2 then (if (bz (I 2 0)) = 0 then (F_X8_rule_67 I a1 0) else (F_X8_rule_67 I a1 1)) else (if a1 = 3 then (I 6 0) else (if a1 = 4 then (F_X0_linesOf I 1 2) else (-1))))))
theorem V_X8_rule  {I : WI} {L : WL} {a1 : Int32}  {P : Int32 → Prop} {t : Tg} (hr : ∀ v, P v → t = (some (.int v), ly0, I, L, R0)) (kk : P (F_X8_rule I a1)) : V (zM x_X8_rule 2 0 0 t) 0 [(0, .ref 0), (1, .int a1)] [] ly0 I L R0 0 0 :=
  V_iload_n (tat ok_X8_rule_0 (i := 0) (q := 1) rfl rfl) 1 rfl rfl <|
    (if c1 : a1 = 0 then V_tswJ (tgt := 36) (off := 35) 0 (tat ok_X8_rule_0 (i := 1) (q := 36) rfl rfl) (swj c1) ⟨rfl, by decide⟩ rfl (V_aload_n (tat ok_X8_rule_0 (i := 2) (q := 37) rfl rfl) 0 rfl rfl <|
    V_getR (tat ok_X8_rule_0 (i := 3) (q := 40) rfl rfl) fk_X8_14 rfl rfl <|
    V_getI (tat ok_X8_rule_0 (i := 4) (q := 43) rfl rfl) fk_X8_117 rfl <|
    V_iret (tat ok_X8_rule_0 (i := 5) (q := 44) rfl rfl) _ rfl (nar_int _) (hr (I 1 1) (jx (P := P) kk (if_pos c1))) ⟨(Nat.le_of_ble_eq_true rfl), (Nat.le_of_ble_eq_true rfl)⟩) else (if c2 : a1 = 1 then V_tswJ (tgt := 44) (off := 43) 1 (tat ok_X8_rule_0 (i := 1) (q := 36) rfl rfl) (swj c2) ⟨rfl, by decide⟩ rfl (V_aload_n (tat ok_X8_rule_0 (i := 6) (q := 45) rfl rfl) 0 rfl rfl <|
    V_getR (tat ok_X8_rule_0 (i := 7) (q := 48) rfl rfl) fk_X8_14 rfl rfl <|
    V_getI (tat ok_X8_rule_0 (i := 8) (q := 51) rfl rfl) fk_X8_120 rfl <|
    V_iret (tat ok_X8_rule_0 (i := 9) (q := 52) rfl rfl) _ rfl (nar_int _) (hr (I 1 2) (jx (P := P) kk (Eq.trans (if_neg c1) (if_pos c2)))) ⟨(Nat.le_of_ble_eq_true rfl), (Nat.le_of_ble_eq_true rfl)⟩) else (if c3 : a1 = 2 then V_tswJ (tgt := 52) (off := 51) 2 (tat ok_X8_rule_0 (i := 1) (q := 36) rfl rfl) (swj c3) ⟨rfl, by decide⟩ rfl (V_aload_n (tat ok_X8_rule_0 (i := 10) (q := 53) rfl rfl) 0 rfl rfl <|
    V_getR (tat ok_X8_rule_0 (i := 11) (q := 56) rfl rfl) fk_X8_18 rfl rfl <|
    V_getZ (tat ok_X8_rule_0 (i := 12) (q := 59) rfl rfl) fk_X8_106 rfl <|
    V_if_eq (tat ok_X8_rule_0 (i := 13) (q := 62) rfl rfl) rfl (fun c6 => V_iconst (tat ok_X8_rule_0 (i := 16) (q := 67) rfl rfl) ic_0 <|
    V_X8_rule_67 rfl hr (jx (P := P) kk (Eq.trans (if_neg c1) (Eq.trans (if_neg c2) (Eq.trans (if_pos c3) (if_pos c6)))))) (fun c6 => V_iconst (tat ok_X8_rule_0 (i := 14) (q := 63) rfl rfl) ic_1 <|
    V_goto (tat ok_X8_rule_0 (i := 15) (q := 66) rfl rfl) rfl <|
    V_X8_rule_67 rfl hr (jx (P := P) kk (Eq.trans (if_neg c1) (Eq.trans (if_neg c2) (Eq.trans (if_pos c3) (if_neg c6))))))) else (if c4 : a1 = 3 then V_tswJ (tgt := 68) (off := 67) 3 (tat ok_X8_rule_0 (i := 1) (q := 36) rfl rfl) (swj c4) ⟨rfl, by decide⟩ rfl (V_aload_n (tat ok_X8_rule_0 (i := 18) (q := 69) rfl rfl) 0 rfl rfl <|
    V_getR (tat ok_X8_rule_0 (i := 19) (q := 72) rfl rfl) fk_X8_33 rfl rfl <|
    V_getI (tat ok_X8_rule_0 (i := 20) (q := 75) rfl rfl) fk_X8_123 rfl <|
    V_iret (tat ok_X8_rule_0 (i := 21) (q := 76) rfl rfl) _ rfl (nar_int _) (hr (I 6 0) (jx (P := P) kk (Eq.trans (if_neg c1) (Eq.trans (if_neg c2) (Eq.trans (if_neg c3) (if_pos c4)))))) ⟨(Nat.le_of_ble_eq_true rfl), (Nat.le_of_ble_eq_true rfl)⟩) else (if c5 : a1 = 4 then V_tswJ (tgt := 76) (off := 75) 4 (tat ok_X8_rule_0 (i := 1) (q := 36) rfl rfl) (swj c5) ⟨rfl, by decide⟩ rfl (V_aload_n (tat ok_X8_rule_0 (i := 22) (q := 77) rfl rfl) 0 rfl rfl <|
    V_getR (tat ok_X8_rule_0 (i := 23) (q := 80) rfl rfl) fk_X8_14 rfl rfl <|
    V_iconst (tat ok_X8_rule_0 (i := 24) (q := 81) rfl rfl) ic_2 <|
    V_cv1 (ct_X0_linesOf I L 1 2 rfl) mo_X0_linesOf (tat ok_X8_rule_0 (i := 25) (q := 84) rfl rfl) ml_X8_126 rfl ⟨by decide, _, rfl, rfl⟩ ⟨(Nat.le_of_ble_eq_true rfl), (Nat.le_of_ble_eq_true rfl)⟩ ⟨(Nat.le_of_ble_eq_true rfl), (Nat.le_of_ble_eq_true rfl)⟩ (Nat.le_of_ble_eq_true rfl) <|
    V_iret (tat ok_X8_rule_0 (i := 26) (q := 85) rfl rfl) _ rfl (nar_int _) (hr (F_X0_linesOf I 1 2) (jx (P := P) kk (Eq.trans (if_neg c1) (Eq.trans (if_neg c2) (Eq.trans (if_neg c3) (Eq.trans (if_neg c4) (if_pos c5))))))) ⟨(Nat.le_of_ble_eq_true rfl), (Nat.le_of_ble_eq_true rfl)⟩) else V_tswD (tgt := 85) (tat ok_X8_rule_0 (i := 1) (q := 36) rfl rfl) (sw5 c1 c2 c3 c4 c5) rfl (V_iconst (tat ok_X8_rule_0 (i := 27) (q := 86) rfl rfl) ic_m1 <|
    V_iret (tat ok_X8_rule_0 (i := 28) (q := 87) rfl rfl) _ rfl (nar_int _) (hr (-1) (jx (P := P) kk (Eq.trans (if_neg c1) (Eq.trans (if_neg c2) (Eq.trans (if_neg c3) (Eq.trans (if_neg c4) (if_neg c5))))))) ⟨(Nat.le_of_ble_eq_true rfl), (Nat.le_of_ble_eq_true rfl)⟩))))))
theorem ct_X8_rule  (I : WI) (L : WL) (a1 : Int32)  : Ct x_X8_rule 2 [.ref 0, .int a1] ly0 I L R0 0 0 (some (.int (F_X8_rule I a1)), ly0, I, L, R0) :=
  Ct_of_V mo_X8_rule.1 (Nat.le_of_ble_eq_true rfl) (V_X8_rule (P := fun x => x = (F_X8_rule I a1))  (fun _ e => by rw [e]) rfl)
def F_X8_day_32 (I : WI) (a1 : Int32) (a2 : Int32) : Int32 :=
  (-1)
theorem V_X8_day_32  {I : WI} {L : WL} {a1 : Int32} {a2 : Int32}  {P : Int32 → Prop} {t : Tg} (hr : ∀ v, P v → t = (some (.int v), ly0, I, L, R0)) (kk : P (F_X8_day_32 I a1 a2)) : V (zM x_X8_day 3 0 0 t) 32 [(0, .ref 0), (1, .int a1), (2, .int a2)] [] ly0 I L R0 0 0 :=
  V_iconst (tat ok_X8_day_0 (i := 16) (q := 33) rfl rfl) ic_m1 <|
    V_iret (tat ok_X8_day_0 (i := 17) (q := 34) rfl rfl) _ rfl (nar_int _) (hr (-1) (jx (P := P) kk rfl)) ⟨(Nat.le_of_ble_eq_true rfl), (Nat.le_of_ble_eq_true rfl)⟩
def F_X8_day_59 (I : WI) (a1 : Int32) (a2 : Int32) (s0 : Int32) : Int32 :=
  s0
theorem V_X8_day_59  {I : WI} {L : WL} {a1 : Int32} {a2 : Int32} {s0 : Int32} {P : Int32 → Prop} {t : Tg} (hr : ∀ v, P v → t = (some (.int v), ly0, I, L, R0)) (kk : P (F_X8_day_59 I a1 a2 s0)) : V (zM x_X8_day 3 0 0 t) 59 [(0, .ref 0), (1, .int a1), (2, .int a2)] [.int s0] ly0 I L R0 0 0 :=
  V_iret (tat ok_X8_day_0 (i := 31) (q := 60) rfl rfl) _ rfl (nar_int _) (hr s0 (jx (P := P) kk rfl)) ⟨(Nat.le_of_ble_eq_true rfl), (Nat.le_of_ble_eq_true rfl)⟩
def F_X8_day (I : WI) (a1 : Int32) (a2 : Int32) : Int32 :=
  (if a1 < 0 then (F_X8_day_32 I a1 a2) else (if (I 6 0) ≤ a1 then (F_X8_day_32 I a1 a2) else (if a2 < (-1) then (F_X8_day_32 I a1 a2) else (if a2 < (F_X1_actsOf I 6 a1) then (if a2 = (-1) then (F_X8_day_59 I a1 a2 (F_X1_actsOf I 6 a1)) else (F_X8_day_59 I a1 a2 (F_X1_codeOf I 6 a1 a2))) else (F_X8_day_32 I a1 a2)))))
theorem V_X8_day  {I : WI} {L : WL} {a1 : Int32} {a2 : Int32}  {P : Int32 → Prop} {t : Tg} (hr : ∀ v, P v → t = (some (.int v), ly0, I, L, R0)) (kk : P (F_X8_day I a1 a2)) : V (zM x_X8_day 3 0 0 t) 0 [(0, .ref 0), (1, .int a1), (2, .int a2)] [] ly0 I L R0 0 0 :=
  V_iload_n (tat ok_X8_day_0 (i := 0) (q := 1) rfl rfl) 1 rfl rfl <|
    V_if_lt (tat ok_X8_day_0 (i := 1) (q := 4) rfl rfl) rfl (fun c1 => V_X8_day_32  hr (jx (P := P) kk (if_pos c1))) (fun c1 => V_iload_n (tat ok_X8_day_0 (i := 2) (q := 5) rfl rfl) 1 rfl rfl <|
    V_aload_n (tat ok_X8_day_0 (i := 3) (q := 6) rfl rfl) 0 rfl rfl <|
    V_getR (tat ok_X8_day_0 (i := 4) (q := 9) rfl rfl) fk_X8_33 rfl rfl <|
    V_getI (tat ok_X8_day_0 (i := 5) (q := 12) rfl rfl) fk_X8_123 rfl <|
    V_icmp_ge (tat ok_X8_day_0 (i := 6) (q := 15) rfl rfl) rfl (fun c2 => V_X8_day_32  hr (jx (P := P) kk (Eq.trans (if_neg c1) (if_pos c2)))) (fun c2 => V_iload_n (tat ok_X8_day_0 (i := 7) (q := 16) rfl rfl) 2 rfl rfl <|
    V_iconst (tat ok_X8_day_0 (i := 8) (q := 17) rfl rfl) ic_m1 <|
    V_icmp_lt (tat ok_X8_day_0 (i := 9) (q := 20) rfl rfl) rfl (fun c3 => V_X8_day_32  hr (jx (P := P) kk (Eq.trans (if_neg c1) (Eq.trans (if_neg c2) (if_pos c3))))) (fun c3 => V_iload_n (tat ok_X8_day_0 (i := 10) (q := 21) rfl rfl) 2 rfl rfl <|
    V_aload_n (tat ok_X8_day_0 (i := 11) (q := 22) rfl rfl) 0 rfl rfl <|
    V_getR (tat ok_X8_day_0 (i := 12) (q := 25) rfl rfl) fk_X8_33 rfl rfl <|
    V_iload_n (tat ok_X8_day_0 (i := 13) (q := 26) rfl rfl) 1 rfl rfl <|
    V_cv1 (ct_X1_actsOf I L 6 a1 (⟨rfl, rfl, rfl, rfl, rfl⟩)) mo_X1_actsOf (tat ok_X8_day_0 (i := 14) (q := 29) rfl rfl) ml_X8_130 rfl ⟨by decide, _, rfl, rfl⟩ ⟨(Nat.le_of_ble_eq_true rfl), (Nat.le_of_ble_eq_true rfl)⟩ ⟨(Nat.le_of_ble_eq_true rfl), (Nat.le_of_ble_eq_true rfl)⟩ (Nat.le_of_ble_eq_true rfl) <|
    V_icmp_lt (tat ok_X8_day_0 (i := 15) (q := 32) rfl rfl) rfl (fun c4 => V_iload_n (tat ok_X8_day_0 (i := 18) (q := 35) rfl rfl) 2 rfl rfl <|
    V_iconst (tat ok_X8_day_0 (i := 19) (q := 36) rfl rfl) ic_m1 <|
    V_icmp_ne (tat ok_X8_day_0 (i := 20) (q := 39) rfl rfl) rfl (fun c5 => V_aload_n (tat ok_X8_day_0 (i := 26) (q := 51) rfl rfl) 0 rfl rfl <|
    V_getR (tat ok_X8_day_0 (i := 27) (q := 54) rfl rfl) fk_X8_33 rfl rfl <|
    V_iload_n (tat ok_X8_day_0 (i := 28) (q := 55) rfl rfl) 1 rfl rfl <|
    V_iload_n (tat ok_X8_day_0 (i := 29) (q := 56) rfl rfl) 2 rfl rfl <|
    V_cv2 (ct_X1_codeOf I L 6 a1 a2 (⟨rfl, rfl, rfl, rfl, rfl⟩)) mo_X1_codeOf (tat ok_X8_day_0 (i := 30) (q := 59) rfl rfl) ml_X8_133 rfl ⟨by decide, _, rfl, rfl⟩ ⟨(Nat.le_of_ble_eq_true rfl), (Nat.le_of_ble_eq_true rfl)⟩ ⟨(Nat.le_of_ble_eq_true rfl), (Nat.le_of_ble_eq_true rfl)⟩ (Nat.le_of_ble_eq_true rfl) <|
    V_X8_day_59  hr (jx (P := P) kk (Eq.trans (if_neg c1) (Eq.trans (if_neg c2) (Eq.trans (if_neg c3) (Eq.trans (if_pos c4) (if_neg c5))))))) (fun c5 => V_aload_n (tat ok_X8_day_0 (i := 21) (q := 40) rfl rfl) 0 rfl rfl <|
    V_getR (tat ok_X8_day_0 (i := 22) (q := 43) rfl rfl) fk_X8_33 rfl rfl <|
    V_iload_n (tat ok_X8_day_0 (i := 23) (q := 44) rfl rfl) 1 rfl rfl <|
    V_cv1 (ct_X1_actsOf I L 6 a1 (⟨rfl, rfl, rfl, rfl, rfl⟩)) mo_X1_actsOf (tat ok_X8_day_0 (i := 24) (q := 47) rfl rfl) ml_X8_130 rfl ⟨by decide, _, rfl, rfl⟩ ⟨(Nat.le_of_ble_eq_true rfl), (Nat.le_of_ble_eq_true rfl)⟩ ⟨(Nat.le_of_ble_eq_true rfl), (Nat.le_of_ble_eq_true rfl)⟩ (Nat.le_of_ble_eq_true rfl) <|
    V_goto (tat ok_X8_day_0 (i := 25) (q := 50) rfl rfl) rfl <|
    V_X8_day_59  hr (jx (P := P) kk (Eq.trans (if_neg c1) (Eq.trans (if_neg c2) (Eq.trans (if_neg c3) (Eq.trans (if_pos c4) (if_pos c5)))))))) (fun c4 => V_X8_day_32  hr (jx (P := P) kk (Eq.trans (if_neg c1) (Eq.trans (if_neg c2) (Eq.trans (if_neg c3) (if_neg c4)))))))))
theorem ct_X8_day  (I : WI) (L : WL) (a1 : Int32) (a2 : Int32)  : Ct x_X8_day 3 [.ref 0, .int a1, .int a2] ly0 I L R0 0 0 (some (.int (F_X8_day I a1 a2)), ly0, I, L, R0) :=
  Ct_of_V mo_X8_day.1 (Nat.le_of_ble_eq_true rfl) (V_X8_day (P := fun x => x = (F_X8_day I a1 a2))  (fun _ e => by rw [e]) rfl)
def F_X8_cloth_38 (I : WI) (L : WL) (a1 : Int32) (s0 : Int64) : Int64 :=
  s0
theorem V_X8_cloth_38  {I : WI} {L : WL} {a1 : Int32} {s0 : Int64} {P : Int64 → Prop} {t : Tg} (hr : ∀ v, P v → t = (some (.long v), ly0, I, L, R0)) (kk : P (F_X8_cloth_38 I L a1 s0)) : V (zM x_X8_cloth 1 0 0 t) 38 [(0, .ref 0), (1, .int a1)] [.long s0] ly0 I L R0 0 0 :=
  V_lret (tat ok_X8_cloth_0 (i := 18) (q := 39) rfl rfl) rfl (hr s0 (jx (P := P) kk rfl)) ⟨(Nat.le_of_ble_eq_true rfl), (Nat.le_of_ble_eq_true rfl)⟩
def F_X8_cloth_37 (I : WI) (L : WL) (a1 : Int32) : Int64 :=
  (F_X8_cloth_38 I L a1 0)
theorem V_X8_cloth_37  {I : WI} {L : WL} {a1 : Int32}  {P : Int64 → Prop} {t : Tg} (hr : ∀ v, P v → t = (some (.long v), ly0, I, L, R0)) (kk : P (F_X8_cloth_37 I L a1)) : V (zM x_X8_cloth 1 0 0 t) 37 [(0, .ref 0), (1, .int a1)] [] ly0 I L R0 0 0 :=
  V_lconst (v := 0) (tat ok_X8_cloth_0 (i := 17) (q := 38) rfl rfl) rfl <|
    V_X8_cloth_38  hr (jx (P := P) kk rfl)
def F_X8_cloth (I : WI) (L : WL) (a1 : Int32) : Int64 :=
  (if a1 = 0 then (L 1 3) else (if a1 = 1 then (if (bz (I 2 0)) = 0 then (F_X8_cloth_37 I L a1) else (F_X8_cloth_38 I L a1 (L 2 3))) else (F_X8_cloth_37 I L a1)))
theorem V_X8_cloth  {I : WI} {L : WL} {a1 : Int32}  {P : Int64 → Prop} {t : Tg} (hr : ∀ v, P v → t = (some (.long v), ly0, I, L, R0)) (kk : P (F_X8_cloth I L a1)) : V (zM x_X8_cloth 1 0 0 t) 0 [(0, .ref 0), (1, .int a1)] [] ly0 I L R0 0 0 :=
  V_iload_n (tat ok_X8_cloth_0 (i := 0) (q := 1) rfl rfl) 1 rfl rfl <|
    V_if_ne (tat ok_X8_cloth_0 (i := 1) (q := 4) rfl rfl) rfl (fun c1 => V_iload_n (tat ok_X8_cloth_0 (i := 6) (q := 13) rfl rfl) 1 rfl rfl <|
    V_iconst (tat ok_X8_cloth_0 (i := 7) (q := 14) rfl rfl) ic_1 <|
    V_icmp_ne (tat ok_X8_cloth_0 (i := 8) (q := 17) rfl rfl) rfl (fun c2 => V_X8_cloth_37  hr (jx (P := P) kk (Eq.trans (if_neg c1) (if_neg c2)))) (fun c2 => V_aload_n (tat ok_X8_cloth_0 (i := 9) (q := 18) rfl rfl) 0 rfl rfl <|
    V_getR (tat ok_X8_cloth_0 (i := 10) (q := 21) rfl rfl) fk_X8_18 rfl rfl <|
    V_getZ (tat ok_X8_cloth_0 (i := 11) (q := 24) rfl rfl) fk_X8_106 rfl <|
    V_if_eq (tat ok_X8_cloth_0 (i := 12) (q := 27) rfl rfl) rfl (fun c3 => V_X8_cloth_37  hr (jx (P := P) kk (Eq.trans (if_neg c1) (Eq.trans (if_pos c2) (if_pos c3))))) (fun c3 => V_aload_n (tat ok_X8_cloth_0 (i := 13) (q := 28) rfl rfl) 0 rfl rfl <|
    V_getR (tat ok_X8_cloth_0 (i := 14) (q := 31) rfl rfl) fk_X8_18 rfl rfl <|
    V_getL (tat ok_X8_cloth_0 (i := 15) (q := 34) rfl rfl) fk_X8_137 rfl <|
    V_goto (tat ok_X8_cloth_0 (i := 16) (q := 37) rfl rfl) rfl <|
    V_X8_cloth_38  hr (jx (P := P) kk (Eq.trans (if_neg c1) (Eq.trans (if_pos c2) (if_neg c3))))))) (fun c1 => V_aload_n (tat ok_X8_cloth_0 (i := 2) (q := 5) rfl rfl) 0 rfl rfl <|
    V_getR (tat ok_X8_cloth_0 (i := 3) (q := 8) rfl rfl) fk_X8_14 rfl rfl <|
    V_getL (tat ok_X8_cloth_0 (i := 4) (q := 11) rfl rfl) fk_X8_137 rfl <|
    V_lret (tat ok_X8_cloth_0 (i := 5) (q := 12) rfl rfl) rfl (hr (L 1 3) (jx (P := P) kk (if_pos c1))) ⟨(Nat.le_of_ble_eq_true rfl), (Nat.le_of_ble_eq_true rfl)⟩)
theorem ct_X8_cloth  (I : WI) (L : WL) (a1 : Int32)  : Ct x_X8_cloth 1 [.ref 0, .int a1] ly0 I L R0 0 0 (some (.long (F_X8_cloth I L a1)), ly0, I, L, R0) :=
  Ct_of_V mo_X8_cloth.1 (Nat.le_of_ble_eq_true rfl) (V_X8_cloth (P := fun x => x = (F_X8_cloth I L a1))  (fun _ e => by rw [e]) rfl)
def F_X8_square_25 (I : WI) (L : WL) (a1 : Int32) (a2 : Int32) (s0 : Int32) : Int32 :=
  s0
theorem V_X8_square_25  {I : WI} {L : WL} {a1 : Int32} {a2 : Int32} {s0 : Int32} {P : Int32 → Prop} {t : Tg} (hr : ∀ v, P v → t = (some (.int v), ly0, I, L, R0)) (kk : P (F_X8_square_25 I L a1 a2 s0)) : V (zM x_X8_square 2 0 0 t) 25 [(0, .ref 0), (1, .int a1), (2, .int a2)] [.int s0] ly0 I L R0 0 0 :=
  V_iret (tat ok_X8_square_0 (i := 13) (q := 26) rfl rfl) _ rfl (nar_int _) (hr s0 (jx (P := P) kk rfl)) ⟨(Nat.le_of_ble_eq_true rfl), (Nat.le_of_ble_eq_true rfl)⟩
def F_X8_square (I : WI) (L : WL) (a1 : Int32) (a2 : Int32) : Int32 :=
  (if (F_X0_hasSquare I 1 a1 a2) = 0 then (F_X8_square_25 I L a1 a2 (-1)) else (F_X8_square_25 I L a1 a2 (F_X0_squareAt L 1 a1 a2)))
theorem V_X8_square  {I : WI} {L : WL} {a1 : Int32} {a2 : Int32}  {P : Int32 → Prop} {t : Tg} (hr : ∀ v, P v → t = (some (.int v), ly0, I, L, R0)) (kk : P (F_X8_square I L a1 a2)) : V (zM x_X8_square 2 0 0 t) 0 [(0, .ref 0), (1, .int a1), (2, .int a2)] [] ly0 I L R0 0 0 :=
  V_aload_n (tat ok_X8_square_0 (i := 0) (q := 1) rfl rfl) 0 rfl rfl <|
    V_getR (tat ok_X8_square_0 (i := 1) (q := 4) rfl rfl) fk_X8_14 rfl rfl <|
    V_iload_n (tat ok_X8_square_0 (i := 2) (q := 5) rfl rfl) 1 rfl rfl <|
    V_iload_n (tat ok_X8_square_0 (i := 3) (q := 6) rfl rfl) 2 rfl rfl <|
    V_cv2 (ct_X0_hasSquare I L 1 a1 a2 rfl) mo_X0_hasSquare (tat ok_X8_square_0 (i := 4) (q := 9) rfl rfl) ml_X8_141 rfl ⟨by decide, _, rfl, rfl⟩ ⟨(Nat.le_of_ble_eq_true rfl), (Nat.le_of_ble_eq_true rfl)⟩ ⟨(Nat.le_of_ble_eq_true rfl), (Nat.le_of_ble_eq_true rfl)⟩ (Nat.le_of_ble_eq_true rfl) <|
    V_if_eq (tat ok_X8_square_0 (i := 5) (q := 12) rfl rfl) rfl (fun c1 => V_iconst (tat ok_X8_square_0 (i := 12) (q := 25) rfl rfl) ic_m1 <|
    V_X8_square_25  hr (jx (P := P) kk (if_pos c1))) (fun c1 => V_aload_n (tat ok_X8_square_0 (i := 6) (q := 13) rfl rfl) 0 rfl rfl <|
    V_getR (tat ok_X8_square_0 (i := 7) (q := 16) rfl rfl) fk_X8_14 rfl rfl <|
    V_iload_n (tat ok_X8_square_0 (i := 8) (q := 17) rfl rfl) 1 rfl rfl <|
    V_iload_n (tat ok_X8_square_0 (i := 9) (q := 18) rfl rfl) 2 rfl rfl <|
    V_cv2 (ct_X0_squareAt I L 1 a1 a2 rfl) mo_X0_squareAt (tat ok_X8_square_0 (i := 10) (q := 21) rfl rfl) ml_X8_145 rfl ⟨by decide, _, rfl, rfl⟩ ⟨(Nat.le_of_ble_eq_true rfl), (Nat.le_of_ble_eq_true rfl)⟩ ⟨(Nat.le_of_ble_eq_true rfl), (Nat.le_of_ble_eq_true rfl)⟩ (Nat.le_of_ble_eq_true rfl) <|
    V_goto (tat ok_X8_square_0 (i := 11) (q := 24) rfl rfl) rfl <|
    V_X8_square_25  hr (jx (P := P) kk (if_neg c1)))
theorem ct_X8_square  (I : WI) (L : WL) (a1 : Int32) (a2 : Int32)  : Ct x_X8_square 2 [.ref 0, .int a1, .int a2] ly0 I L R0 0 0 (some (.int (F_X8_square I L a1 a2)), ly0, I, L, R0) :=
  Ct_of_V mo_X8_square.1 (Nat.le_of_ble_eq_true rfl) (V_X8_square (P := fun x => x = (F_X8_square I L a1 a2))  (fun _ e => by rw [e]) rfl)
def F_X8_paint_26 (I : WI) (L : WL) (a1 : Int32) (a2 : Int32) (a3 : Int32) (s0 : Int32) : (Int32 × WL) :=
  (s0, L)
theorem V_X8_paint_26  {I : WI} {L : WL} {a1 : Int32} {a2 : Int32} {a3 : Int32} {s0 : Int32} {P : (Int32 × WL) → Prop} {t : Tg} (hr : ∀ v, P v → t = (some (.int (p1 v)), ly0, I, (p2 v), R0)) (kk : P (F_X8_paint_26 I L a1 a2 a3 s0)) : V (zM x_X8_paint 3 0 0 t) 26 [(0, .ref 0), (1, .int a1), (2, .int a2), (3, .int a3)] [.int s0] ly0 I L R0 0 0 :=
  V_iret (tat ok_X8_paint_0 (i := 14) (q := 27) rfl rfl) _ rfl (nar_int _) (hr (s0, L) (jx (P := P) kk rfl)) ⟨(Nat.le_of_ble_eq_true rfl), (Nat.le_of_ble_eq_true rfl)⟩
def F_X8_paint (I : WI) (L : WL) (a1 : Int32) (a2 : Int32) (a3 : Int32) : (Int32 × WL) :=
  (if (F_X0_hasSquare I 1 a1 a2) = 0 then (F_X8_paint_26 I L a1 a2 a3 (-1)) else (F_X8_paint_26 I (p2 (F_X0_colour L 1 a1 a2 a3)) a1 a2 a3 (p1 (F_X0_colour L 1 a1 a2 a3))))
theorem V_X8_paint  {I : WI} {L : WL} {a1 : Int32} {a2 : Int32} {a3 : Int32}  {P : (Int32 × WL) → Prop} {t : Tg} (hr : ∀ v, P v → t = (some (.int (p1 v)), ly0, I, (p2 v), R0)) (kk : P (F_X8_paint I L a1 a2 a3)) : V (zM x_X8_paint 3 0 0 t) 0 [(0, .ref 0), (1, .int a1), (2, .int a2), (3, .int a3)] [] ly0 I L R0 0 0 :=
  V_aload_n (tat ok_X8_paint_0 (i := 0) (q := 1) rfl rfl) 0 rfl rfl <|
    V_getR (tat ok_X8_paint_0 (i := 1) (q := 4) rfl rfl) fk_X8_14 rfl rfl <|
    V_iload_n (tat ok_X8_paint_0 (i := 2) (q := 5) rfl rfl) 1 rfl rfl <|
    V_iload_n (tat ok_X8_paint_0 (i := 3) (q := 6) rfl rfl) 2 rfl rfl <|
    V_cv2 (ct_X0_hasSquare I L 1 a1 a2 rfl) mo_X0_hasSquare (tat ok_X8_paint_0 (i := 4) (q := 9) rfl rfl) ml_X8_141 rfl ⟨by decide, _, rfl, rfl⟩ ⟨(Nat.le_of_ble_eq_true rfl), (Nat.le_of_ble_eq_true rfl)⟩ ⟨(Nat.le_of_ble_eq_true rfl), (Nat.le_of_ble_eq_true rfl)⟩ (Nat.le_of_ble_eq_true rfl) <|
    V_if_eq (tat ok_X8_paint_0 (i := 5) (q := 12) rfl rfl) rfl (fun c1 => V_iconst (tat ok_X8_paint_0 (i := 13) (q := 26) rfl rfl) ic_m1 <|
    V_X8_paint_26  hr (jx (P := P) kk (if_pos c1))) (fun c1 => V_aload_n (tat ok_X8_paint_0 (i := 6) (q := 13) rfl rfl) 0 rfl rfl <|
    V_getR (tat ok_X8_paint_0 (i := 7) (q := 16) rfl rfl) fk_X8_14 rfl rfl <|
    V_iload_n (tat ok_X8_paint_0 (i := 8) (q := 17) rfl rfl) 1 rfl rfl <|
    V_iload_n (tat ok_X8_paint_0 (i := 9) (q := 18) rfl rfl) 2 rfl rfl <|
    V_iload_n (tat ok_X8_paint_0 (i := 10) (q := 19) rfl rfl) 3 rfl rfl <|
    V_cv3 (ct_X0_colour I L 1 a1 a2 a3 rfl) mo_X0_colour (tat ok_X8_paint_0 (i := 11) (q := 22) rfl rfl) ml_X8_148 rfl ⟨by decide, _, rfl, rfl⟩ ⟨(Nat.le_of_ble_eq_true rfl), (Nat.le_of_ble_eq_true rfl)⟩ ⟨(Nat.le_of_ble_eq_true rfl), (Nat.le_of_ble_eq_true rfl)⟩ (Nat.le_of_ble_eq_true rfl) <|
    V_goto (tat ok_X8_paint_0 (i := 12) (q := 25) rfl rfl) rfl <|
    V_X8_paint_26  hr (jx (P := P) kk (if_neg c1)))
theorem ct_X8_paint  (I : WI) (L : WL) (a1 : Int32) (a2 : Int32) (a3 : Int32)  : Ct x_X8_paint 3 [.ref 0, .int a1, .int a2, .int a3] ly0 I L R0 0 0 (some (.int (p1 (F_X8_paint I L a1 a2 a3))), ly0, I, (p2 (F_X8_paint I L a1 a2 a3)), R0) :=
  Ct_of_V mo_X8_paint.1 (Nat.le_of_ble_eq_true rfl) (V_X8_paint (P := fun x => x = (F_X8_paint I L a1 a2 a3))  (fun _ e => by rw [e]) rfl)
def F_X8_wish_39 (I : WI) (L : WL) (a1 : Int32) (a2 : Int32) (a3 : Int32) (s0 : Int32) : (Int32 × WL) :=
  (s0, L)
theorem V_X8_wish_39  {I : WI} {L : WL} {a1 : Int32} {a2 : Int32} {a3 : Int32} {s0 : Int32} {P : (Int32 × WL) → Prop} {t : Tg} (hr : ∀ v, P v → t = (some (.int (p1 v)), ly0, I, (p2 v), R0)) (kk : P (F_X8_wish_39 I L a1 a2 a3 s0)) : V (zM x_X8_wish 3 0 0 t) 39 [(0, .ref 0), (1, .int a1), (2, .int a2), (3, .int a3)] [.int s0] ly0 I L R0 0 0 :=
  V_iret (tat ok_X8_wish_0 (i := 20) (q := 40) rfl rfl) _ rfl (nar_int _) (hr (s0, L) (jx (P := P) kk rfl)) ⟨(Nat.le_of_ble_eq_true rfl), (Nat.le_of_ble_eq_true rfl)⟩
def F_X8_wish (I : WI) (L : WL) (a1 : Int32) (a2 : Int32) (a3 : Int32) : (Int32 × WL) :=
  (if (F_X0_hasSquare I 1 a1 a2) = 0 then ((-1), L) else (if (bz (I 2 0)) = 0 then (F_X8_wish_39 I L a1 a2 a3 (-2)) else (F_X8_wish_39 I (p2 (F_X0_colour L 2 a1 a2 a3)) a1 a2 a3 (p1 (F_X0_colour L 2 a1 a2 a3)))))
theorem V_X8_wish  {I : WI} {L : WL} {a1 : Int32} {a2 : Int32} {a3 : Int32}  {P : (Int32 × WL) → Prop} {t : Tg} (hr : ∀ v, P v → t = (some (.int (p1 v)), ly0, I, (p2 v), R0)) (kk : P (F_X8_wish I L a1 a2 a3)) : V (zM x_X8_wish 3 0 0 t) 0 [(0, .ref 0), (1, .int a1), (2, .int a2), (3, .int a3)] [] ly0 I L R0 0 0 :=
  V_aload_n (tat ok_X8_wish_0 (i := 0) (q := 1) rfl rfl) 0 rfl rfl <|
    V_getR (tat ok_X8_wish_0 (i := 1) (q := 4) rfl rfl) fk_X8_14 rfl rfl <|
    V_iload_n (tat ok_X8_wish_0 (i := 2) (q := 5) rfl rfl) 1 rfl rfl <|
    V_iload_n (tat ok_X8_wish_0 (i := 3) (q := 6) rfl rfl) 2 rfl rfl <|
    V_cv2 (ct_X0_hasSquare I L 1 a1 a2 rfl) mo_X0_hasSquare (tat ok_X8_wish_0 (i := 4) (q := 9) rfl rfl) ml_X8_141 rfl ⟨by decide, _, rfl, rfl⟩ ⟨(Nat.le_of_ble_eq_true rfl), (Nat.le_of_ble_eq_true rfl)⟩ ⟨(Nat.le_of_ble_eq_true rfl), (Nat.le_of_ble_eq_true rfl)⟩ (Nat.le_of_ble_eq_true rfl) <|
    V_if_ne (tat ok_X8_wish_0 (i := 5) (q := 12) rfl rfl) rfl (fun c1 => V_aload_n (tat ok_X8_wish_0 (i := 8) (q := 15) rfl rfl) 0 rfl rfl <|
    V_getR (tat ok_X8_wish_0 (i := 9) (q := 18) rfl rfl) fk_X8_18 rfl rfl <|
    V_getZ (tat ok_X8_wish_0 (i := 10) (q := 21) rfl rfl) fk_X8_106 rfl <|
    V_if_eq (tat ok_X8_wish_0 (i := 11) (q := 24) rfl rfl) rfl (fun c2 => V_bipush (tat ok_X8_wish_0 (i := 19) (q := 39) rfl rfl) bp_m2 <|
    V_X8_wish_39  hr (jx (P := P) kk (Eq.trans (if_neg c1) (if_pos c2)))) (fun c2 => V_aload_n (tat ok_X8_wish_0 (i := 12) (q := 25) rfl rfl) 0 rfl rfl <|
    V_getR (tat ok_X8_wish_0 (i := 13) (q := 28) rfl rfl) fk_X8_18 rfl rfl <|
    V_iload_n (tat ok_X8_wish_0 (i := 14) (q := 29) rfl rfl) 1 rfl rfl <|
    V_iload_n (tat ok_X8_wish_0 (i := 15) (q := 30) rfl rfl) 2 rfl rfl <|
    V_iload_n (tat ok_X8_wish_0 (i := 16) (q := 31) rfl rfl) 3 rfl rfl <|
    V_cv3 (ct_X0_colour I L 2 a1 a2 a3 rfl) mo_X0_colour (tat ok_X8_wish_0 (i := 17) (q := 34) rfl rfl) ml_X8_148 rfl ⟨by decide, _, rfl, rfl⟩ ⟨(Nat.le_of_ble_eq_true rfl), (Nat.le_of_ble_eq_true rfl)⟩ ⟨(Nat.le_of_ble_eq_true rfl), (Nat.le_of_ble_eq_true rfl)⟩ (Nat.le_of_ble_eq_true rfl) <|
    V_goto (tat ok_X8_wish_0 (i := 18) (q := 37) rfl rfl) rfl <|
    V_X8_wish_39  hr (jx (P := P) kk (Eq.trans (if_neg c1) (if_neg c2))))) (fun c1 => V_iconst (tat ok_X8_wish_0 (i := 6) (q := 13) rfl rfl) ic_m1 <|
    V_iret (tat ok_X8_wish_0 (i := 7) (q := 14) rfl rfl) _ rfl (nar_int _) (hr ((-1), L) (jx (P := P) kk (if_pos c1))) ⟨(Nat.le_of_ble_eq_true rfl), (Nat.le_of_ble_eq_true rfl)⟩)
theorem ct_X8_wish  (I : WI) (L : WL) (a1 : Int32) (a2 : Int32) (a3 : Int32)  : Ct x_X8_wish 3 [.ref 0, .int a1, .int a2, .int a3] ly0 I L R0 0 0 (some (.int (p1 (F_X8_wish I L a1 a2 a3))), ly0, I, (p2 (F_X8_wish I L a1 a2 a3)), R0) :=
  Ct_of_V mo_X8_wish.1 (Nat.le_of_ble_eq_true rfl) (V_X8_wish (P := fun x => x = (F_X8_wish I L a1 a2 a3))  (fun _ e => by rw [e]) rfl)
def F_X8_act (I : WI) (L : WL) (a1 : Int32) (a2 : Int32) : (Int32 × WL) :=
  (if (F_X0_hasLine I 1 a1 a2) = 0 then ((-1), L) else ((F_X0_darkSquares (u2 L 1 3 ((L 1 3) ^^^ (F_X0_squaresOf I 1 a1 a2))) 1), (u2 L 1 3 ((L 1 3) ^^^ (F_X0_squaresOf I 1 a1 a2)))))
theorem V_X8_act  {I : WI} {L : WL} {a1 : Int32} {a2 : Int32}  {P : (Int32 × WL) → Prop} {t : Tg} (hr : ∀ v, P v → t = (some (.int (p1 v)), ly0, I, (p2 v), R0)) (kk : P (F_X8_act I L a1 a2)) : V (zM x_X8_act 4 0 0 t) 0 [(0, .ref 0), (1, .int a1), (2, .int a2)] [] ly0 I L R0 0 0 :=
  V_aload_n (tat ok_X8_act_0 (i := 0) (q := 1) rfl rfl) 0 rfl rfl <|
    V_getR (tat ok_X8_act_0 (i := 1) (q := 4) rfl rfl) fk_X8_14 rfl rfl <|
    V_iload_n (tat ok_X8_act_0 (i := 2) (q := 5) rfl rfl) 1 rfl rfl <|
    V_iload_n (tat ok_X8_act_0 (i := 3) (q := 6) rfl rfl) 2 rfl rfl <|
    V_cv2 (ct_X0_hasLine I L 1 a1 a2 rfl) mo_X0_hasLine (tat ok_X8_act_0 (i := 4) (q := 9) rfl rfl) ml_X8_152 rfl ⟨by decide, _, rfl, rfl⟩ ⟨(Nat.le_of_ble_eq_true rfl), (Nat.le_of_ble_eq_true rfl)⟩ ⟨(Nat.le_of_ble_eq_true rfl), (Nat.le_of_ble_eq_true rfl)⟩ (Nat.le_of_ble_eq_true rfl) <|
    V_if_ne (tat ok_X8_act_0 (i := 5) (q := 12) rfl rfl) rfl (fun c1 => V_aload_n (tat ok_X8_act_0 (i := 8) (q := 15) rfl rfl) 0 rfl rfl <|
    V_getR (tat ok_X8_act_0 (i := 9) (q := 18) rfl rfl) fk_X8_14 rfl rfl <|
    V_dup (tat ok_X8_act_0 (i := 10) (q := 19) rfl rfl) rfl <|
    V_getL (tat ok_X8_act_0 (i := 11) (q := 22) rfl rfl) fk_X8_137 rfl <|
    V_aload_n (tat ok_X8_act_0 (i := 12) (q := 23) rfl rfl) 0 rfl rfl <|
    V_getR (tat ok_X8_act_0 (i := 13) (q := 26) rfl rfl) fk_X8_14 rfl rfl <|
    V_iload_n (tat ok_X8_act_0 (i := 14) (q := 27) rfl rfl) 1 rfl rfl <|
    V_iload_n (tat ok_X8_act_0 (i := 15) (q := 28) rfl rfl) 2 rfl rfl <|
    V_cv2 (ct_X0_squaresOf I L 1 a1 a2 rfl) mo_X0_squaresOf (tat ok_X8_act_0 (i := 16) (q := 31) rfl rfl) ml_X8_155 rfl ⟨by decide, _, rfl, rfl⟩ ⟨(Nat.le_of_ble_eq_true rfl), (Nat.le_of_ble_eq_true rfl)⟩ ⟨(Nat.le_of_ble_eq_true rfl), (Nat.le_of_ble_eq_true rfl)⟩ (Nat.le_of_ble_eq_true rfl) <|
    V_lxor (tat ok_X8_act_0 (i := 17) (q := 32) rfl rfl) <|
    V_putL (tat ok_X8_act_0 (i := 18) (q := 35) rfl rfl) fk_X8_137 rfl rfl <|
    V_aload_n (tat ok_X8_act_0 (i := 19) (q := 36) rfl rfl) 0 rfl rfl <|
    V_getR (tat ok_X8_act_0 (i := 20) (q := 39) rfl rfl) fk_X8_14 rfl rfl <|
    V_cv0 (ct_X0_darkSquares I (u2 L 1 3 ((L 1 3) ^^^ (F_X0_squaresOf I 1 a1 a2))) 1 rfl) mo_X0_darkSquares (tat ok_X8_act_0 (i := 21) (q := 42) rfl rfl) ml_X8_159 rfl ⟨by decide, _, rfl, rfl⟩ ⟨(Nat.le_of_ble_eq_true rfl), (Nat.le_of_ble_eq_true rfl)⟩ ⟨(Nat.le_of_ble_eq_true rfl), (Nat.le_of_ble_eq_true rfl)⟩ (Nat.le_of_ble_eq_true rfl) <|
    V_iret (tat ok_X8_act_0 (i := 22) (q := 43) rfl rfl) _ rfl (nar_int _) (hr ((F_X0_darkSquares (u2 L 1 3 ((L 1 3) ^^^ (F_X0_squaresOf I 1 a1 a2))) 1), (u2 L 1 3 ((L 1 3) ^^^ (F_X0_squaresOf I 1 a1 a2)))) (jx (P := P) kk (if_neg c1))) ⟨(Nat.le_of_ble_eq_true rfl), (Nat.le_of_ble_eq_true rfl)⟩) (fun c1 => V_iconst (tat ok_X8_act_0 (i := 6) (q := 13) rfl rfl) ic_m1 <|
    V_iret (tat ok_X8_act_0 (i := 7) (q := 14) rfl rfl) _ rfl (nar_int _) (hr ((-1), L) (jx (P := P) kk (if_pos c1))) ⟨(Nat.le_of_ble_eq_true rfl), (Nat.le_of_ble_eq_true rfl)⟩)
theorem ct_X8_act  (I : WI) (L : WL) (a1 : Int32) (a2 : Int32)  : Ct x_X8_act 4 [.ref 0, .int a1, .int a2] ly0 I L R0 0 0 (some (.int (p1 (F_X8_act I L a1 a2))), ly0, I, (p2 (F_X8_act I L a1 a2)), R0) :=
  Ct_of_V mo_X8_act.1 (Nat.le_of_ble_eq_true rfl) (V_X8_act (P := fun x => x = (F_X8_act I L a1 a2))  (fun _ e => by rw [e]) rfl)
def F_X8_turn_30 (I : WI) (L : WL) (a1 : Int32) (a2 : Int32) : (Int32 × WL) :=
  ((-1), L)
theorem V_X8_turn_30  {I : WI} {L : WL} {a1 : Int32} {a2 : Int32}  {P : (Int32 × WL) → Prop} {t : Tg} (hr : ∀ v, P v → t = (some (.int (p1 v)), ly0, I, (p2 v), R0)) (kk : P (F_X8_turn_30 I L a1 a2)) : V (zM x_X8_turn 5 0 0 t) 30 [(0, .ref 0), (1, .int a1), (2, .int a2)] [] ly0 I L R0 0 0 :=
  V_iconst (tat ok_X8_turn_0 (i := 14) (q := 31) rfl rfl) ic_m1 <|
    V_iret (tat ok_X8_turn_0 (i := 15) (q := 32) rfl rfl) _ rfl (nar_int _) (hr ((-1), L) (jx (P := P) kk rfl)) ⟨(Nat.le_of_ble_eq_true rfl), (Nat.le_of_ble_eq_true rfl)⟩
def F_X8_turn (I : WI) (L : WL) (a1 : Int32) (a2 : Int32) : (Int32 × WL) :=
  (if a1 < 0 then (F_X8_turn_30 I L a1 a2) else (if (F_X0_everyRow I 1) < a1 then (F_X8_turn_30 I L a1 a2) else (if a2 < 0 then (F_X8_turn_30 I L a1 a2) else (if a2 ≤ (F_X0_everyColumn I 1) then ((F_X0_darkSquares (u2 L 1 3 ((L 1 3) ^^^ (F_X0_squaresTurned I 1 a1 a2))) 1), (u2 L 1 3 ((L 1 3) ^^^ (F_X0_squaresTurned I 1 a1 a2)))) else (F_X8_turn_30 I L a1 a2)))))
theorem V_X8_turn  {I : WI} {L : WL} {a1 : Int32} {a2 : Int32}  {P : (Int32 × WL) → Prop} {t : Tg} (hr : ∀ v, P v → t = (some (.int (p1 v)), ly0, I, (p2 v), R0)) (kk : P (F_X8_turn I L a1 a2)) : V (zM x_X8_turn 5 0 0 t) 0 [(0, .ref 0), (1, .int a1), (2, .int a2)] [] ly0 I L R0 0 0 :=
  V_iload_n (tat ok_X8_turn_0 (i := 0) (q := 1) rfl rfl) 1 rfl rfl <|
    V_if_lt (tat ok_X8_turn_0 (i := 1) (q := 4) rfl rfl) rfl (fun c1 => V_X8_turn_30  hr (jx (P := P) kk (if_pos c1))) (fun c1 => V_iload_n (tat ok_X8_turn_0 (i := 2) (q := 5) rfl rfl) 1 rfl rfl <|
    V_aload_n (tat ok_X8_turn_0 (i := 3) (q := 6) rfl rfl) 0 rfl rfl <|
    V_getR (tat ok_X8_turn_0 (i := 4) (q := 9) rfl rfl) fk_X8_14 rfl rfl <|
    V_cv0 (ct_X0_everyRow I L 1 rfl) mo_X0_everyRow (tat ok_X8_turn_0 (i := 5) (q := 12) rfl rfl) ml_X8_162 rfl ⟨by decide, _, rfl, rfl⟩ ⟨(Nat.le_of_ble_eq_true rfl), (Nat.le_of_ble_eq_true rfl)⟩ ⟨(Nat.le_of_ble_eq_true rfl), (Nat.le_of_ble_eq_true rfl)⟩ (Nat.le_of_ble_eq_true rfl) <|
    V_icmp_gt (tat ok_X8_turn_0 (i := 6) (q := 15) rfl rfl) rfl (fun c2 => V_X8_turn_30  hr (jx (P := P) kk (Eq.trans (if_neg c1) (if_pos c2)))) (fun c2 => V_iload_n (tat ok_X8_turn_0 (i := 7) (q := 16) rfl rfl) 2 rfl rfl <|
    V_if_lt (tat ok_X8_turn_0 (i := 8) (q := 19) rfl rfl) rfl (fun c3 => V_X8_turn_30  hr (jx (P := P) kk (Eq.trans (if_neg c1) (Eq.trans (if_neg c2) (if_pos c3))))) (fun c3 => V_iload_n (tat ok_X8_turn_0 (i := 9) (q := 20) rfl rfl) 2 rfl rfl <|
    V_aload_n (tat ok_X8_turn_0 (i := 10) (q := 21) rfl rfl) 0 rfl rfl <|
    V_getR (tat ok_X8_turn_0 (i := 11) (q := 24) rfl rfl) fk_X8_14 rfl rfl <|
    V_cv0 (ct_X0_everyColumn I L 1 rfl) mo_X0_everyColumn (tat ok_X8_turn_0 (i := 12) (q := 27) rfl rfl) ml_X8_165 rfl ⟨by decide, _, rfl, rfl⟩ ⟨(Nat.le_of_ble_eq_true rfl), (Nat.le_of_ble_eq_true rfl)⟩ ⟨(Nat.le_of_ble_eq_true rfl), (Nat.le_of_ble_eq_true rfl)⟩ (Nat.le_of_ble_eq_true rfl) <|
    V_icmp_le (tat ok_X8_turn_0 (i := 13) (q := 30) rfl rfl) rfl (fun c4 => V_aload_n (tat ok_X8_turn_0 (i := 16) (q := 33) rfl rfl) 0 rfl rfl <|
    V_getR (tat ok_X8_turn_0 (i := 17) (q := 36) rfl rfl) fk_X8_14 rfl rfl <|
    V_dup (tat ok_X8_turn_0 (i := 18) (q := 37) rfl rfl) rfl <|
    V_getL (tat ok_X8_turn_0 (i := 19) (q := 40) rfl rfl) fk_X8_137 rfl <|
    V_aload_n (tat ok_X8_turn_0 (i := 20) (q := 41) rfl rfl) 0 rfl rfl <|
    V_getR (tat ok_X8_turn_0 (i := 21) (q := 44) rfl rfl) fk_X8_14 rfl rfl <|
    V_iload_n (tat ok_X8_turn_0 (i := 22) (q := 45) rfl rfl) 1 rfl rfl <|
    V_iload_n (tat ok_X8_turn_0 (i := 23) (q := 46) rfl rfl) 2 rfl rfl <|
    V_cv2 (ct_X0_squaresTurned I L 1 a1 a2 rfl) mo_X0_squaresTurned (tat ok_X8_turn_0 (i := 24) (q := 49) rfl rfl) ml_X8_168 rfl ⟨by decide, _, rfl, rfl⟩ ⟨(Nat.le_of_ble_eq_true rfl), (Nat.le_of_ble_eq_true rfl)⟩ ⟨(Nat.le_of_ble_eq_true rfl), (Nat.le_of_ble_eq_true rfl)⟩ (Nat.le_of_ble_eq_true rfl) <|
    V_lxor (tat ok_X8_turn_0 (i := 25) (q := 50) rfl rfl) <|
    V_putL (tat ok_X8_turn_0 (i := 26) (q := 53) rfl rfl) fk_X8_137 rfl rfl <|
    V_aload_n (tat ok_X8_turn_0 (i := 27) (q := 54) rfl rfl) 0 rfl rfl <|
    V_getR (tat ok_X8_turn_0 (i := 28) (q := 57) rfl rfl) fk_X8_14 rfl rfl <|
    V_cv0 (ct_X0_darkSquares I (u2 L 1 3 ((L 1 3) ^^^ (F_X0_squaresTurned I 1 a1 a2))) 1 rfl) mo_X0_darkSquares (tat ok_X8_turn_0 (i := 29) (q := 60) rfl rfl) ml_X8_159 rfl ⟨by decide, _, rfl, rfl⟩ ⟨(Nat.le_of_ble_eq_true rfl), (Nat.le_of_ble_eq_true rfl)⟩ ⟨(Nat.le_of_ble_eq_true rfl), (Nat.le_of_ble_eq_true rfl)⟩ (Nat.le_of_ble_eq_true rfl) <|
    V_iret (tat ok_X8_turn_0 (i := 30) (q := 61) rfl rfl) _ rfl (nar_int _) (hr ((F_X0_darkSquares (u2 L 1 3 ((L 1 3) ^^^ (F_X0_squaresTurned I 1 a1 a2))) 1), (u2 L 1 3 ((L 1 3) ^^^ (F_X0_squaresTurned I 1 a1 a2)))) (jx (P := P) kk (Eq.trans (if_neg c1) (Eq.trans (if_neg c2) (Eq.trans (if_neg c3) (if_pos c4)))))) ⟨(Nat.le_of_ble_eq_true rfl), (Nat.le_of_ble_eq_true rfl)⟩) (fun c4 => V_X8_turn_30  hr (jx (P := P) kk (Eq.trans (if_neg c1) (Eq.trans (if_neg c2) (Eq.trans (if_neg c3) (if_neg c4)))))))))
theorem ct_X8_turn  (I : WI) (L : WL) (a1 : Int32) (a2 : Int32)  : Ct x_X8_turn 5 [.ref 0, .int a1, .int a2] ly0 I L R0 0 0 (some (.int (p1 (F_X8_turn I L a1 a2))), ly0, I, (p2 (F_X8_turn I L a1 a2)), R0) :=
  Ct_of_V mo_X8_turn.1 (Nat.le_of_ble_eq_true rfl) (V_X8_turn (P := fun x => x = (F_X8_turn I L a1 a2))  (fun _ e => by rw [e]) rfl)
def F_X8_go_15 (I : WI) (L : WL) (a1 : Int32) : (Int32 × WL) :=
  ((-1), L)
theorem V_X8_go_15  {I : WI} {L : WL} {a1 : Int32}  {P : (Int32 × WL) → Prop} {t : Tg} (hr : ∀ v, P v → t = (some (.int (p1 v)), ly0, I, (p2 v), R0)) (kk : P (F_X8_go_15 I L a1)) : V (zM x_X8_go 4 0 0 t) 15 [(0, .ref 0), (1, .int a1)] [] ly0 I L R0 0 0 :=
  V_iconst (tat ok_X8_go_0 (i := 7) (q := 16) rfl rfl) ic_m1 <|
    V_iret (tat ok_X8_go_0 (i := 8) (q := 17) rfl rfl) _ rfl (nar_int _) (hr ((-1), L) (jx (P := P) kk rfl)) ⟨(Nat.le_of_ble_eq_true rfl), (Nat.le_of_ble_eq_true rfl)⟩
def F_X8_go_38_2 (I : WI) (L : WL) (a1 : Int32) (a2 : Int32) (a3 : Int32) : WL :=
  (u2 L 1 3 ((L 1 3) ^^^ (F_X0_squaresOf I 1 (F_X1_kindOf I 6 a2 a3) (F_X1_numberOf I 6 a2 a3))))
theorem V_X8_go_38_2  {I : WI} {L : WL} {a1 : Int32} {a2 : Int32} {a3 : Int32}  {P : WL → Prop} {t : Tg} (hk : ∀ x : WL, P x → V (zM x_X8_go 4 0 0 t) 26 [(0, .ref 0), (1, .int a1), (2, .int a2), (3, .int (a3 + 1))] [] ly0 I x R0 0 0) (kk : P (F_X8_go_38_2 I L a1 a2 a3)) : V (zM x_X8_go 4 0 0 t) 38 [(0, .ref 0), (1, .int a1), (2, .int a2), (3, .int a3)] [] ly0 I L R0 0 0 :=
  V_aload_n (tat ok_X8_go_0 (i := 22) (q := 39) rfl rfl) 0 rfl rfl <|
    V_getR (tat ok_X8_go_0 (i := 23) (q := 42) rfl rfl) fk_X8_14 rfl rfl <|
    V_dup (tat ok_X8_go_0 (i := 24) (q := 43) rfl rfl) rfl <|
    V_getL (tat ok_X8_go_0 (i := 25) (q := 46) rfl rfl) fk_X8_137 rfl <|
    V_aload_n (tat ok_X8_go_0 (i := 26) (q := 47) rfl rfl) 0 rfl rfl <|
    V_getR (tat ok_X8_go_0 (i := 27) (q := 50) rfl rfl) fk_X8_14 rfl rfl <|
    V_aload_n (tat ok_X8_go_0 (i := 28) (q := 51) rfl rfl) 0 rfl rfl <|
    V_getR (tat ok_X8_go_0 (i := 29) (q := 54) rfl rfl) fk_X8_33 rfl rfl <|
    V_iload_n (tat ok_X8_go_0 (i := 30) (q := 55) rfl rfl) 2 rfl rfl <|
    V_iload_n (tat ok_X8_go_0 (i := 31) (q := 56) rfl rfl) 3 rfl rfl <|
    V_cv2 (ct_X1_kindOf I L 6 a2 a3 (⟨rfl, rfl, rfl, rfl, rfl⟩)) mo_X1_kindOf (tat ok_X8_go_0 (i := 32) (q := 59) rfl rfl) ml_X8_171 rfl ⟨by decide, _, rfl, rfl⟩ ⟨(Nat.le_of_ble_eq_true rfl), (Nat.le_of_ble_eq_true rfl)⟩ ⟨(Nat.le_of_ble_eq_true rfl), (Nat.le_of_ble_eq_true rfl)⟩ (Nat.le_of_ble_eq_true rfl) <|
    V_aload_n (tat ok_X8_go_0 (i := 33) (q := 60) rfl rfl) 0 rfl rfl <|
    V_getR (tat ok_X8_go_0 (i := 34) (q := 63) rfl rfl) fk_X8_33 rfl rfl <|
    V_iload_n (tat ok_X8_go_0 (i := 35) (q := 64) rfl rfl) 2 rfl rfl <|
    V_iload_n (tat ok_X8_go_0 (i := 36) (q := 65) rfl rfl) 3 rfl rfl <|
    V_cv2 (ct_X1_numberOf I L 6 a2 a3 (⟨rfl, rfl, rfl, rfl, rfl⟩)) mo_X1_numberOf (tat ok_X8_go_0 (i := 37) (q := 68) rfl rfl) ml_X8_174 rfl ⟨by decide, _, rfl, rfl⟩ ⟨(Nat.le_of_ble_eq_true rfl), (Nat.le_of_ble_eq_true rfl)⟩ ⟨(Nat.le_of_ble_eq_true rfl), (Nat.le_of_ble_eq_true rfl)⟩ (Nat.le_of_ble_eq_true rfl) <|
    V_cv2 (ct_X0_squaresOf I L 1 (F_X1_kindOf I 6 a2 a3) (F_X1_numberOf I 6 a2 a3) rfl) mo_X0_squaresOf (tat ok_X8_go_0 (i := 38) (q := 71) rfl rfl) ml_X8_155 rfl ⟨by decide, _, rfl, rfl⟩ ⟨(Nat.le_of_ble_eq_true rfl), (Nat.le_of_ble_eq_true rfl)⟩ ⟨(Nat.le_of_ble_eq_true rfl), (Nat.le_of_ble_eq_true rfl)⟩ (Nat.le_of_ble_eq_true rfl) <|
    V_lxor (tat ok_X8_go_0 (i := 39) (q := 72) rfl rfl) <|
    V_putL (tat ok_X8_go_1 (i := 0) (q := 75) rfl rfl) fk_X8_137 rfl rfl <|
    V_iinc (v := (a3 + 1)) (lv' := [(3, .int (a3 + 1)), (0, .ref 0), (1, .int a1), (2, .int a2)]) (tat ok_X8_go_1 (i := 1) (q := 78) rfl rfl) 3 rfl (ia ic_1) (Nat.le_of_ble_eq_true rfl) rfl <|
    V_goto (tat ok_X8_go_1 (i := 2) (q := 81) rfl rfl) rfl <|
    V_pick [1, 2, 3, 0] rfl (hk (u2 L 1 3 ((L 1 3) ^^^ (F_X0_squaresOf I 1 (F_X1_kindOf I 6 a2 a3) (F_X1_numberOf I 6 a2 a3)))) (jx (P := P) kk rfl))
def F_X8_go_81_1 (I : WI) (L : WL) (a1 : Int32) (a2 : Int32) : WL :=
  L
theorem V_X8_go_81_1  {I : WI} {L : WL} {a1 : Int32} {a2 : Int32}  {P : WL → Prop} {t : Tg} (hk : ∀ x : WL, P x → V (zM x_X8_go 4 0 0 t) 19 [(0, .ref 0), (1, .int a1), (2, .int (a2 + 1))] [] ly0 I x R0 0 0) (kk : P (F_X8_go_81_1 I L a1 a2)) : V (zM x_X8_go 4 0 0 t) 81 [(0, .ref 0), (1, .int a1), (2, .int a2)] [] ly0 I L R0 0 0 :=
  V_iinc (v := (a2 + 1)) (lv' := [(2, .int (a2 + 1)), (0, .ref 0), (1, .int a1)]) (tat ok_X8_go_1 (i := 3) (q := 84) rfl rfl) 2 rfl (ia ic_1) (Nat.le_of_ble_eq_true rfl) rfl <|
    V_goto (tat ok_X8_go_1 (i := 4) (q := 87) rfl rfl) rfl <|
    V_pick [1, 2, 0] rfl (hk L (jx (P := P) kk rfl))
def F_X8_go_26_1 (I : WI) (L : WL) (a1 : Int32) (a2 : Int32) (a3 : Int32) : WL :=
  (fun q : Int32 × WL => (F_X8_go_81_1 I (p2 q) a1 a2)) (fr0 (fun i x => (F_X8_go_38_2 I x a1 a2 i)) (F_X1_actsOf I 6 a2) (fu a3 (F_X1_actsOf I 6 a2)) a3 L)
theorem V_X8_go_26_1  {I : WI} {L : WL} {a1 : Int32} {a2 : Int32} {a3 : Int32} {P : WL → Prop} {t : Tg} (hb3 : bz a3 = a3) (hk : ∀ x : WL, P x → V (zM x_X8_go 4 0 0 t) 19 [(0, .ref 0), (1, .int a1), (2, .int (a2 + 1))] [] ly0 I x R0 0 0) (kk : P (F_X8_go_26_1 I L a1 a2 a3)) : V (zM x_X8_go 4 0 0 t) 26 [(0, .ref 0), (1, .int a1), (2, .int a2), (3, .int a3)] [] ly0 I L R0 0 0 :=
  V_fr0 (fun i x => (F_X8_go_38_2 I x a1 a2 i)) (F_X1_actsOf I 6 a2) (fun i x => V (zM x_X8_go 4 0 0 t) 26 [(0, .ref 0), (1, .int a1), (2, .int a2), (3, .int i)] [] ly0 I x R0 0 0) (fun i x => P ((F_X8_go_81_1 I x a1 a2))) (c := a3) (s := L) (fun i x kx kb => V_iload_n (tat ok_X8_go_0 (i := 16) (q := 27) rfl rfl) 3 rfl rfl <|
    V_aload_n (tat ok_X8_go_0 (i := 17) (q := 28) rfl rfl) 0 rfl rfl <|
    V_getR (tat ok_X8_go_0 (i := 18) (q := 31) rfl rfl) fk_X8_33 rfl rfl <|
    V_iload_n (tat ok_X8_go_0 (i := 19) (q := 32) rfl rfl) 2 rfl rfl <|
    V_cv1 (ct_X1_actsOf I x 6 a2 (⟨rfl, rfl, rfl, rfl, rfl⟩)) mo_X1_actsOf (tat ok_X8_go_0 (i := 20) (q := 35) rfl rfl) ml_X8_130 rfl ⟨by decide, _, rfl, rfl⟩ ⟨(Nat.le_of_ble_eq_true rfl), (Nat.le_of_ble_eq_true rfl)⟩ ⟨(Nat.le_of_ble_eq_true rfl), (Nat.le_of_ble_eq_true rfl)⟩ (Nat.le_of_ble_eq_true rfl) <|
    V_icmp_ge (tat ok_X8_go_0 (i := 21) (q := 38) rfl rfl) rfl (fun c0 => V_pick [0, 1, 2] rfl (V_X8_go_81_1  hk (kx c0))) (fun c0 => V_X8_go_38_2 (P := (fun x => (fun i x => V (zM x_X8_go 4 0 0 t) 26 [(0, .ref 0), (1, .int a1), (2, .int a2), (3, .int i)] [] ly0 I x R0 0 0) (i + 1) x))  (fun _ e => e) (kb c0))) kk
def F_X8_go_24_1 (I : WI) (L : WL) (a1 : Int32) (a2 : Int32) : WL :=
  (F_X8_go_26_1 I L a1 a2 0)
theorem V_X8_go_24_1  {I : WI} {L : WL} {a1 : Int32} {a2 : Int32}  {P : WL → Prop} {t : Tg} (hk : ∀ x : WL, P x → V (zM x_X8_go 4 0 0 t) 19 [(0, .ref 0), (1, .int a1), (2, .int (a2 + 1))] [] ly0 I x R0 0 0) (kk : P (F_X8_go_24_1 I L a1 a2)) : V (zM x_X8_go 4 0 0 t) 24 [(0, .ref 0), (1, .int a1), (2, .int a2)] [] ly0 I L R0 0 0 :=
  V_iconst (tat ok_X8_go_0 (i := 14) (q := 25) rfl rfl) ic_0 <|
    V_istore_n (lv' := [(3, .int 0), (0, .ref 0), (1, .int a1), (2, .int a2)]) (tat ok_X8_go_0 (i := 15) (q := 26) rfl rfl) rfl (Nat.le_of_ble_eq_true rfl) rfl <|
    V_pick [1, 2, 3, 0] rfl (V_X8_go_26_1 rfl hk (jx (P := P) kk rfl))
def F_X8_go_87 (I : WI) (L : WL) (a1 : Int32) : (Int32 × WL) :=
  ((F_X0_darkSquares L 1), L)
theorem V_X8_go_87  {I : WI} {L : WL} {a1 : Int32}  {P : (Int32 × WL) → Prop} {t : Tg} (hr : ∀ v, P v → t = (some (.int (p1 v)), ly0, I, (p2 v), R0)) (kk : P (F_X8_go_87 I L a1)) : V (zM x_X8_go 4 0 0 t) 87 [(0, .ref 0), (1, .int a1)] [] ly0 I L R0 0 0 :=
  V_aload_n (tat ok_X8_go_1 (i := 5) (q := 88) rfl rfl) 0 rfl rfl <|
    V_getR (tat ok_X8_go_1 (i := 6) (q := 91) rfl rfl) fk_X8_14 rfl rfl <|
    V_cv0 (ct_X0_darkSquares I L 1 rfl) mo_X0_darkSquares (tat ok_X8_go_1 (i := 7) (q := 94) rfl rfl) ml_X8_159 rfl ⟨by decide, _, rfl, rfl⟩ ⟨(Nat.le_of_ble_eq_true rfl), (Nat.le_of_ble_eq_true rfl)⟩ ⟨(Nat.le_of_ble_eq_true rfl), (Nat.le_of_ble_eq_true rfl)⟩ (Nat.le_of_ble_eq_true rfl) <|
    V_iret (tat ok_X8_go_1 (i := 8) (q := 95) rfl rfl) _ rfl (nar_int _) (hr ((F_X0_darkSquares L 1), L) (jx (P := P) kk rfl)) ⟨(Nat.le_of_ble_eq_true rfl), (Nat.le_of_ble_eq_true rfl)⟩
def F_X8_go_19 (I : WI) (L : WL) (a1 : Int32) (a2 : Int32) : (Int32 × WL) :=
  (fun q : Int32 × WL => (F_X8_go_87 I (p2 q) a1)) (fr0 (fun i x => (F_X8_go_24_1 I x a1 i)) a1 (fu a2 a1) a2 L)
theorem V_X8_go_19  {I : WI} {L : WL} {a1 : Int32} {a2 : Int32} {P : (Int32 × WL) → Prop} {t : Tg} (hb2 : bz a2 = a2) (hr : ∀ v, P v → t = (some (.int (p1 v)), ly0, I, (p2 v), R0)) (kk : P (F_X8_go_19 I L a1 a2)) : V (zM x_X8_go 4 0 0 t) 19 [(0, .ref 0), (1, .int a1), (2, .int a2)] [] ly0 I L R0 0 0 :=
  V_fr0 (fun i x => (F_X8_go_24_1 I x a1 i)) a1 (fun i x => V (zM x_X8_go 4 0 0 t) 19 [(0, .ref 0), (1, .int a1), (2, .int i)] [] ly0 I x R0 0 0) (fun i x => P ((F_X8_go_87 I x a1))) (c := a2) (s := L) (fun i x kx kb => V_iload_n (tat ok_X8_go_0 (i := 11) (q := 20) rfl rfl) 2 rfl rfl <|
    V_iload_n (tat ok_X8_go_0 (i := 12) (q := 21) rfl rfl) 1 rfl rfl <|
    V_icmp_ge (tat ok_X8_go_0 (i := 13) (q := 24) rfl rfl) rfl (fun c0 => V_pick [0, 1] rfl (V_X8_go_87  hr (kx c0))) (fun c0 => V_X8_go_24_1 (P := (fun x => (fun i x => V (zM x_X8_go 4 0 0 t) 19 [(0, .ref 0), (1, .int a1), (2, .int i)] [] ly0 I x R0 0 0) (i + 1) x))  (fun _ e => e) (kb c0))) kk
def F_X8_go (I : WI) (L : WL) (a1 : Int32) : (Int32 × WL) :=
  (if a1 < 0 then (F_X8_go_15 I L a1) else (if a1 ≤ (I 6 0) then (F_X8_go_19 I L a1 0) else (F_X8_go_15 I L a1)))
theorem V_X8_go  {I : WI} {L : WL} {a1 : Int32}  {P : (Int32 × WL) → Prop} {t : Tg} (hr : ∀ v, P v → t = (some (.int (p1 v)), ly0, I, (p2 v), R0)) (kk : P (F_X8_go I L a1)) : V (zM x_X8_go 4 0 0 t) 0 [(0, .ref 0), (1, .int a1)] [] ly0 I L R0 0 0 :=
  V_iload_n (tat ok_X8_go_0 (i := 0) (q := 1) rfl rfl) 1 rfl rfl <|
    V_if_lt (tat ok_X8_go_0 (i := 1) (q := 4) rfl rfl) rfl (fun c1 => V_X8_go_15  hr (jx (P := P) kk (if_pos c1))) (fun c1 => V_iload_n (tat ok_X8_go_0 (i := 2) (q := 5) rfl rfl) 1 rfl rfl <|
    V_aload_n (tat ok_X8_go_0 (i := 3) (q := 6) rfl rfl) 0 rfl rfl <|
    V_getR (tat ok_X8_go_0 (i := 4) (q := 9) rfl rfl) fk_X8_33 rfl rfl <|
    V_getI (tat ok_X8_go_0 (i := 5) (q := 12) rfl rfl) fk_X8_123 rfl <|
    V_icmp_le (tat ok_X8_go_0 (i := 6) (q := 15) rfl rfl) rfl (fun c2 => V_iconst (tat ok_X8_go_0 (i := 9) (q := 18) rfl rfl) ic_0 <|
    V_istore_n (lv' := [(2, .int 0), (0, .ref 0), (1, .int a1)]) (tat ok_X8_go_0 (i := 10) (q := 19) rfl rfl) rfl (Nat.le_of_ble_eq_true rfl) rfl <|
    V_pick [1, 2, 0] rfl (V_X8_go_19 rfl hr (jx (P := P) kk (Eq.trans (if_neg c1) (if_pos c2))))) (fun c2 => V_X8_go_15  hr (jx (P := P) kk (Eq.trans (if_neg c1) (if_neg c2)))))
theorem ct_X8_go  (I : WI) (L : WL) (a1 : Int32)  : Ct x_X8_go 4 [.ref 0, .int a1] ly0 I L R0 0 0 (some (.int (p1 (F_X8_go I L a1))), ly0, I, (p2 (F_X8_go I L a1)), R0) :=
  Ct_of_V mo_X8_go.1 (Nat.le_of_ble_eq_true rfl) (V_X8_go (P := fun x => x = (F_X8_go I L a1))  (fun _ e => by rw [e]) rfl)
def F_X8_form_54 (I : WI) (L : WL) (a1 : Int32) (s0 : Int64) : Int64 :=
  s0
theorem V_X8_form_54  {I : WI} {L : WL} {a1 : Int32} {s0 : Int64} {P : Int64 → Prop} {t : Tg} (hr : ∀ v, P v → t = (some (.long v), ly0, I, L, R0)) (kk : P (F_X8_form_54 I L a1 s0)) : V (zM x_X8_form 6 0 0 t) 54 [(0, .ref 0), (1, .int a1)] [.long s0] ly0 I L R0 0 0 :=
  V_lret (tat ok_X8_form_0 (i := 24) (q := 55) rfl rfl) rfl (hr s0 (jx (P := P) kk rfl)) ⟨(Nat.le_of_ble_eq_true rfl), (Nat.le_of_ble_eq_true rfl)⟩
def F_X8_form_51 (I : WI) (L : WL) (a1 : Int32) : Int64 :=
  (F_X8_form_54 I L a1 (-1))
theorem V_X8_form_51  {I : WI} {L : WL} {a1 : Int32}  {P : Int64 → Prop} {t : Tg} (hr : ∀ v, P v → t = (some (.long v), ly0, I, L, R0)) (kk : P (F_X8_form_51 I L a1)) : V (zM x_X8_form 6 0 0 t) 51 [(0, .ref 0), (1, .int a1)] [] ly0 I L R0 0 0 :=
  V_ldc2 (tat ok_X8_form_0 (i := 23) (q := 54) rfl rfl) (gw_in kl_X8_181 rfl) <|
    V_X8_form_54  hr (jx (P := P) kk rfl)
def F_X8_form (I : WI) (L : WL) (a1 : Int32) : Int64 :=
  (if a1 = 0 then (F_X0_formOf I 1 (L 1 3)) else (if a1 = 1 then (if (bz (I 2 0)) = 0 then (F_X8_form_51 I L a1) else (F_X8_form_54 I L a1 (F_X0_formOf I 2 (L 2 3)))) else (F_X8_form_51 I L a1)))
theorem V_X8_form  {I : WI} {L : WL} {a1 : Int32}  {P : Int64 → Prop} {t : Tg} (hr : ∀ v, P v → t = (some (.long v), ly0, I, L, R0)) (kk : P (F_X8_form I L a1)) : V (zM x_X8_form 6 0 0 t) 0 [(0, .ref 0), (1, .int a1)] [] ly0 I L R0 0 0 :=
  V_iload_n (tat ok_X8_form_0 (i := 0) (q := 1) rfl rfl) 1 rfl rfl <|
    V_if_ne (tat ok_X8_form_0 (i := 1) (q := 4) rfl rfl) rfl (fun c1 => V_iload_n (tat ok_X8_form_0 (i := 9) (q := 20) rfl rfl) 1 rfl rfl <|
    V_iconst (tat ok_X8_form_0 (i := 10) (q := 21) rfl rfl) ic_1 <|
    V_icmp_ne (tat ok_X8_form_0 (i := 11) (q := 24) rfl rfl) rfl (fun c2 => V_X8_form_51  hr (jx (P := P) kk (Eq.trans (if_neg c1) (if_neg c2)))) (fun c2 => V_aload_n (tat ok_X8_form_0 (i := 12) (q := 25) rfl rfl) 0 rfl rfl <|
    V_getR (tat ok_X8_form_0 (i := 13) (q := 28) rfl rfl) fk_X8_18 rfl rfl <|
    V_getZ (tat ok_X8_form_0 (i := 14) (q := 31) rfl rfl) fk_X8_106 rfl <|
    V_if_eq (tat ok_X8_form_0 (i := 15) (q := 34) rfl rfl) rfl (fun c3 => V_X8_form_51  hr (jx (P := P) kk (Eq.trans (if_neg c1) (Eq.trans (if_pos c2) (if_pos c3))))) (fun c3 => V_aload_n (tat ok_X8_form_0 (i := 16) (q := 35) rfl rfl) 0 rfl rfl <|
    V_getR (tat ok_X8_form_0 (i := 17) (q := 38) rfl rfl) fk_X8_18 rfl rfl <|
    V_aload_n (tat ok_X8_form_0 (i := 18) (q := 39) rfl rfl) 0 rfl rfl <|
    V_getR (tat ok_X8_form_0 (i := 19) (q := 42) rfl rfl) fk_X8_18 rfl rfl <|
    V_getL (tat ok_X8_form_0 (i := 20) (q := 45) rfl rfl) fk_X8_137 rfl <|
    V_cv1 (ct_X0_formOf I L 2 (L 2 3) rfl) mo_X0_formOf (tat ok_X8_form_0 (i := 21) (q := 48) rfl rfl) ml_X8_177 rfl ⟨by decide, _, rfl, rfl⟩ ⟨(Nat.le_of_ble_eq_true rfl), (Nat.le_of_ble_eq_true rfl)⟩ ⟨(Nat.le_of_ble_eq_true rfl), (Nat.le_of_ble_eq_true rfl)⟩ (Nat.le_of_ble_eq_true rfl) <|
    V_goto (tat ok_X8_form_0 (i := 22) (q := 51) rfl rfl) rfl <|
    V_X8_form_54  hr (jx (P := P) kk (Eq.trans (if_neg c1) (Eq.trans (if_pos c2) (if_neg c3))))))) (fun c1 => V_aload_n (tat ok_X8_form_0 (i := 2) (q := 5) rfl rfl) 0 rfl rfl <|
    V_getR (tat ok_X8_form_0 (i := 3) (q := 8) rfl rfl) fk_X8_14 rfl rfl <|
    V_aload_n (tat ok_X8_form_0 (i := 4) (q := 9) rfl rfl) 0 rfl rfl <|
    V_getR (tat ok_X8_form_0 (i := 5) (q := 12) rfl rfl) fk_X8_14 rfl rfl <|
    V_getL (tat ok_X8_form_0 (i := 6) (q := 15) rfl rfl) fk_X8_137 rfl <|
    V_cv1 (ct_X0_formOf I L 1 (L 1 3) rfl) mo_X0_formOf (tat ok_X8_form_0 (i := 7) (q := 18) rfl rfl) ml_X8_177 rfl ⟨by decide, _, rfl, rfl⟩ ⟨(Nat.le_of_ble_eq_true rfl), (Nat.le_of_ble_eq_true rfl)⟩ ⟨(Nat.le_of_ble_eq_true rfl), (Nat.le_of_ble_eq_true rfl)⟩ (Nat.le_of_ble_eq_true rfl) <|
    V_lret (tat ok_X8_form_0 (i := 8) (q := 19) rfl rfl) rfl (hr (F_X0_formOf I 1 (L 1 3)) (jx (P := P) kk (if_pos c1))) ⟨(Nat.le_of_ble_eq_true rfl), (Nat.le_of_ble_eq_true rfl)⟩)
theorem ct_X8_form  (I : WI) (L : WL) (a1 : Int32)  : Ct x_X8_form 6 [.ref 0, .int a1] ly0 I L R0 0 0 (some (.long (F_X8_form I L a1)), ly0, I, L, R0) :=
  Ct_of_V mo_X8_form.1 (Nat.le_of_ble_eq_true rfl) (V_X8_form (P := fun x => x = (F_X8_form I L a1))  (fun _ e => by rw [e]) rfl)
def F_X8_forms (I : WI) : Int64 :=
  (lsh 1 (((I 1 1) - 1) * ((I 1 2) - 1)))
theorem V_X8_forms  {I : WI} {L : WL}   {P : Int64 → Prop} {t : Tg} (hr : ∀ v, P v → t = (some (.long v), ly0, I, L, R0)) (kk : P (F_X8_forms I)) : V (zM x_X8_forms 1 0 0 t) 0 [(0, .ref 0)] [] ly0 I L R0 0 0 :=
  V_lconst (v := 1) (tat ok_X8_forms_0 (i := 0) (q := 1) rfl rfl) rfl <|
    V_aload_n (tat ok_X8_forms_0 (i := 1) (q := 2) rfl rfl) 0 rfl rfl <|
    V_getR (tat ok_X8_forms_0 (i := 2) (q := 5) rfl rfl) fk_X8_14 rfl rfl <|
    V_getI (tat ok_X8_forms_0 (i := 3) (q := 8) rfl rfl) fk_X8_117 rfl <|
    V_iconst (tat ok_X8_forms_0 (i := 4) (q := 9) rfl rfl) ic_1 <|
    V_isub (tat ok_X8_forms_0 (i := 5) (q := 10) rfl rfl) <|
    V_aload_n (tat ok_X8_forms_0 (i := 6) (q := 11) rfl rfl) 0 rfl rfl <|
    V_getR (tat ok_X8_forms_0 (i := 7) (q := 14) rfl rfl) fk_X8_14 rfl rfl <|
    V_getI (tat ok_X8_forms_0 (i := 8) (q := 17) rfl rfl) fk_X8_120 rfl <|
    V_iconst (tat ok_X8_forms_0 (i := 9) (q := 18) rfl rfl) ic_1 <|
    V_isub (tat ok_X8_forms_0 (i := 10) (q := 19) rfl rfl) <|
    V_imul (tat ok_X8_forms_0 (i := 11) (q := 20) rfl rfl) <|
    V_lshl (tat ok_X8_forms_0 (i := 12) (q := 21) rfl rfl) <|
    V_lret (tat ok_X8_forms_0 (i := 13) (q := 22) rfl rfl) rfl (hr (lsh 1 (((I 1 1) - 1) * ((I 1 2) - 1))) (jx (P := P) kk rfl)) ⟨(Nat.le_of_ble_eq_true rfl), (Nat.le_of_ble_eq_true rfl)⟩
theorem ct_X8_forms  (I : WI) (L : WL)  : Ct x_X8_forms 1 [.ref 0] ly0 I L R0 0 0 (some (.long (F_X8_forms I)), ly0, I, L, R0) :=
  Ct_of_V mo_X8_forms.1 (Nat.le_of_ble_eq_true rfl) (V_X8_forms (P := fun x => x = (F_X8_forms I))  (fun _ e => by rw [e]) rfl)
def F_X8_alike_62 (I : WI) (L : WL) (a1 : Int32) (s0 : Int32) : Int32 :=
  s0
theorem V_X8_alike_62  {I : WI} {L : WL} {a1 : Int32} {s0 : Int32} {P : Int32 → Prop} {t : Tg} (hs0 : bz s0 = s0) (hr : ∀ v, P v → t = (some (.int v), ly0, I, L, R0)) (kk : P (F_X8_alike_62 I L a1 s0)) : V (zM x_X8_alike 6 0 0 t) 62 [(0, .ref 0), (1, .int a1)] [.int s0] ly0 I L R0 0 0 :=
  V_iret (tat ok_X8_alike_0 (i := 33) (q := 63) rfl rfl) _ rfl (nar_int _) (hr s0 (jx (P := P) kk rfl)) ⟨(Nat.le_of_ble_eq_true rfl), (Nat.le_of_ble_eq_true rfl)⟩
def F_X8_alike_61 (I : WI) (L : WL) (a1 : Int32) : Int32 :=
  (F_X8_alike_62 I L a1 0)
theorem V_X8_alike_61  {I : WI} {L : WL} {a1 : Int32}  {P : Int32 → Prop} {t : Tg} (hr : ∀ v, P v → t = (some (.int v), ly0, I, L, R0)) (kk : P (F_X8_alike_61 I L a1)) : V (zM x_X8_alike 6 0 0 t) 61 [(0, .ref 0), (1, .int a1)] [] ly0 I L R0 0 0 :=
  V_iconst (tat ok_X8_alike_0 (i := 32) (q := 62) rfl rfl) ic_0 <|
    V_X8_alike_62 rfl hr (jx (P := P) kk rfl)
def F_X8_alike (I : WI) (L : WL) (a1 : Int32) : Int32 :=
  (if a1 = 0 then (if (bz (I 3 0)) = 0 then (-2) else (if (F_X0_sameSize I 3 1) = 0 then (F_X8_alike_61 I L a1) else (if (lg_cmp (F_X0_formOf I 1 ((L 1 3) ^^^ (L 3 3))) 0) = 0 then (F_X8_alike_62 I L a1 1) else (F_X8_alike_61 I L a1)))) else (if a1 = 1 then (if (bz (I 4 0)) = 0 then (-2) else (if (F_X0_sameSize I 4 1) = 0 then (F_X8_alike_61 I L a1) else (if (lg_cmp (F_X0_formOf I 1 ((L 1 3) ^^^ (L 4 3))) 0) = 0 then (F_X8_alike_62 I L a1 1) else (F_X8_alike_61 I L a1)))) else (-1)))
theorem V_X8_alike  {I : WI} {L : WL} {a1 : Int32}  {P : Int32 → Prop} {t : Tg} (hr : ∀ v, P v → t = (some (.int v), ly0, I, L, R0)) (kk : P (F_X8_alike I L a1)) : V (zM x_X8_alike 6 0 0 t) 0 [(0, .ref 0), (1, .int a1)] [] ly0 I L R0 0 0 :=
  V_aload_n (tat ok_X8_alike_0 (i := 0) (q := 1) rfl rfl) 0 rfl rfl <|
    V_iload_n (tat ok_X8_alike_0 (i := 1) (q := 2) rfl rfl) 1 rfl rfl <|
    (if c1 : a1 = 0 then V_cv1 (ct_img0 I L a1 c1) mo_X8_imageOf (tat ok_X8_alike_0 (i := 2) (q := 5) rfl rfl) ml_X8_183 rfl ⟨by decide, _, rfl, rfl⟩ ⟨(Nat.le_of_ble_eq_true rfl), (Nat.le_of_ble_eq_true rfl)⟩ ⟨(Nat.le_of_ble_eq_true rfl), (Nat.le_of_ble_eq_true rfl)⟩ (Nat.le_of_ble_eq_true rfl) <|
    V_astore_n (lv' := [(2, .ref 3), (0, .ref 0), (1, .int a1)]) (tat ok_X8_alike_0 (i := 3) (q := 6) rfl rfl) rfl (by decide) (Nat.le_of_ble_eq_true rfl) rfl <|
    V_aload_n (tat ok_X8_alike_0 (i := 4) (q := 7) rfl rfl) 0 rfl rfl <|
    V_ifnonnull (tat ok_X8_alike_0 (i := 5) (q := 10) rfl rfl) (by decide) rfl <|
    V_aload_n (tat ok_X8_alike_0 (i := 8) (q := 13) rfl rfl) 0 rfl rfl <|
    V_getZ (tat ok_X8_alike_0 (i := 9) (q := 16) rfl rfl) fk_X8_106 rfl <|
    V_if_ne (tat ok_X8_alike_0 (i := 10) (q := 19) rfl rfl) rfl (fun c3 => V_aload_n (tat ok_X8_alike_0 (i := 13) (q := 23) rfl rfl) 0 rfl rfl <|
    V_aload_n (tat ok_X8_alike_0 (i := 14) (q := 24) rfl rfl) 1 rfl rfl <|
    V_getR (tat ok_X8_alike_0 (i := 15) (q := 27) rfl rfl) fk_X8_14 rfl rfl <|
    V_cv1 (ct_X0_sameSize I L 3 1 rfl rfl) mo_X0_sameSize (tat ok_X8_alike_0 (i := 16) (q := 30) rfl rfl) ml_X8_187 rfl ⟨by decide, _, rfl, rfl⟩ ⟨(Nat.le_of_ble_eq_true rfl), (Nat.le_of_ble_eq_true rfl)⟩ ⟨(Nat.le_of_ble_eq_true rfl), (Nat.le_of_ble_eq_true rfl)⟩ (Nat.le_of_ble_eq_true rfl) <|
    V_if_eq (tat ok_X8_alike_0 (i := 17) (q := 33) rfl rfl) rfl (fun c4 => V_pick [1, 2] rfl (V_X8_alike_61  hr (jx (P := P) kk (Eq.trans (if_pos c1) (Eq.trans (if_neg c3) (if_pos c4)))))) (fun c4 => V_aload_n (tat ok_X8_alike_0 (i := 18) (q := 34) rfl rfl) 1 rfl rfl <|
    V_getR (tat ok_X8_alike_0 (i := 19) (q := 37) rfl rfl) fk_X8_14 rfl rfl <|
    V_aload_n (tat ok_X8_alike_0 (i := 20) (q := 38) rfl rfl) 1 rfl rfl <|
    V_getR (tat ok_X8_alike_0 (i := 21) (q := 41) rfl rfl) fk_X8_14 rfl rfl <|
    V_getL (tat ok_X8_alike_0 (i := 22) (q := 44) rfl rfl) fk_X8_137 rfl <|
    V_aload_n (tat ok_X8_alike_0 (i := 23) (q := 45) rfl rfl) 0 rfl rfl <|
    V_getL (tat ok_X8_alike_0 (i := 24) (q := 48) rfl rfl) fk_X8_137 rfl <|
    V_lxor (tat ok_X8_alike_0 (i := 25) (q := 49) rfl rfl) <|
    V_cv1 (ct_X0_formOf I L 1 ((L 1 3) ^^^ (L 3 3)) rfl) mo_X0_formOf (tat ok_X8_alike_0 (i := 26) (q := 52) rfl rfl) ml_X8_177 rfl ⟨by decide, _, rfl, rfl⟩ ⟨(Nat.le_of_ble_eq_true rfl), (Nat.le_of_ble_eq_true rfl)⟩ ⟨(Nat.le_of_ble_eq_true rfl), (Nat.le_of_ble_eq_true rfl)⟩ (Nat.le_of_ble_eq_true rfl) <|
    V_lconst (v := 0) (tat ok_X8_alike_0 (i := 27) (q := 53) rfl rfl) rfl <|
    V_lcmp (tat ok_X8_alike_0 (i := 28) (q := 54) rfl rfl) <|
    V_if_ne (tat ok_X8_alike_0 (i := 29) (q := 57) rfl rfl) rfl (fun c5 => V_pick [1, 2] rfl (V_X8_alike_61  hr (jx (P := P) kk (Eq.trans (if_pos c1) (Eq.trans (if_neg c3) (Eq.trans (if_neg c4) (if_neg c5))))))) (fun c5 => V_iconst (tat ok_X8_alike_0 (i := 30) (q := 58) rfl rfl) ic_1 <|
    V_goto (tat ok_X8_alike_0 (i := 31) (q := 61) rfl rfl) rfl <|
    V_pick [1, 2] rfl (V_X8_alike_62 rfl hr (jx (P := P) kk (Eq.trans (if_pos c1) (Eq.trans (if_neg c3) (Eq.trans (if_neg c4) (if_pos c5))))))))) (fun c3 => V_bipush (tat ok_X8_alike_0 (i := 11) (q := 21) rfl rfl) bp_m2 <|
    V_iret (tat ok_X8_alike_0 (i := 12) (q := 22) rfl rfl) _ rfl (nar_int _) (hr (-2) (jx (P := P) kk (Eq.trans (if_pos c1) (if_pos c3)))) ⟨(Nat.le_of_ble_eq_true rfl), (Nat.le_of_ble_eq_true rfl)⟩) else (if c2 : a1 = 1 then V_cv1 (ct_img1 I L a1 c2) mo_X8_imageOf (tat ok_X8_alike_0 (i := 2) (q := 5) rfl rfl) ml_X8_183 rfl ⟨by decide, _, rfl, rfl⟩ ⟨(Nat.le_of_ble_eq_true rfl), (Nat.le_of_ble_eq_true rfl)⟩ ⟨(Nat.le_of_ble_eq_true rfl), (Nat.le_of_ble_eq_true rfl)⟩ (Nat.le_of_ble_eq_true rfl) <|
    V_astore_n (lv' := [(2, .ref 4), (0, .ref 0), (1, .int a1)]) (tat ok_X8_alike_0 (i := 3) (q := 6) rfl rfl) rfl (by decide) (Nat.le_of_ble_eq_true rfl) rfl <|
    V_aload_n (tat ok_X8_alike_0 (i := 4) (q := 7) rfl rfl) 0 rfl rfl <|
    V_ifnonnull (tat ok_X8_alike_0 (i := 5) (q := 10) rfl rfl) (by decide) rfl <|
    V_aload_n (tat ok_X8_alike_0 (i := 8) (q := 13) rfl rfl) 0 rfl rfl <|
    V_getZ (tat ok_X8_alike_0 (i := 9) (q := 16) rfl rfl) fk_X8_106 rfl <|
    V_if_ne (tat ok_X8_alike_0 (i := 10) (q := 19) rfl rfl) rfl (fun c6 => V_aload_n (tat ok_X8_alike_0 (i := 13) (q := 23) rfl rfl) 0 rfl rfl <|
    V_aload_n (tat ok_X8_alike_0 (i := 14) (q := 24) rfl rfl) 1 rfl rfl <|
    V_getR (tat ok_X8_alike_0 (i := 15) (q := 27) rfl rfl) fk_X8_14 rfl rfl <|
    V_cv1 (ct_X0_sameSize I L 4 1 rfl rfl) mo_X0_sameSize (tat ok_X8_alike_0 (i := 16) (q := 30) rfl rfl) ml_X8_187 rfl ⟨by decide, _, rfl, rfl⟩ ⟨(Nat.le_of_ble_eq_true rfl), (Nat.le_of_ble_eq_true rfl)⟩ ⟨(Nat.le_of_ble_eq_true rfl), (Nat.le_of_ble_eq_true rfl)⟩ (Nat.le_of_ble_eq_true rfl) <|
    V_if_eq (tat ok_X8_alike_0 (i := 17) (q := 33) rfl rfl) rfl (fun c7 => V_pick [1, 2] rfl (V_X8_alike_61  hr (jx (P := P) kk (Eq.trans (if_neg c1) (Eq.trans (if_pos c2) (Eq.trans (if_neg c6) (if_pos c7))))))) (fun c7 => V_aload_n (tat ok_X8_alike_0 (i := 18) (q := 34) rfl rfl) 1 rfl rfl <|
    V_getR (tat ok_X8_alike_0 (i := 19) (q := 37) rfl rfl) fk_X8_14 rfl rfl <|
    V_aload_n (tat ok_X8_alike_0 (i := 20) (q := 38) rfl rfl) 1 rfl rfl <|
    V_getR (tat ok_X8_alike_0 (i := 21) (q := 41) rfl rfl) fk_X8_14 rfl rfl <|
    V_getL (tat ok_X8_alike_0 (i := 22) (q := 44) rfl rfl) fk_X8_137 rfl <|
    V_aload_n (tat ok_X8_alike_0 (i := 23) (q := 45) rfl rfl) 0 rfl rfl <|
    V_getL (tat ok_X8_alike_0 (i := 24) (q := 48) rfl rfl) fk_X8_137 rfl <|
    V_lxor (tat ok_X8_alike_0 (i := 25) (q := 49) rfl rfl) <|
    V_cv1 (ct_X0_formOf I L 1 ((L 1 3) ^^^ (L 4 3)) rfl) mo_X0_formOf (tat ok_X8_alike_0 (i := 26) (q := 52) rfl rfl) ml_X8_177 rfl ⟨by decide, _, rfl, rfl⟩ ⟨(Nat.le_of_ble_eq_true rfl), (Nat.le_of_ble_eq_true rfl)⟩ ⟨(Nat.le_of_ble_eq_true rfl), (Nat.le_of_ble_eq_true rfl)⟩ (Nat.le_of_ble_eq_true rfl) <|
    V_lconst (v := 0) (tat ok_X8_alike_0 (i := 27) (q := 53) rfl rfl) rfl <|
    V_lcmp (tat ok_X8_alike_0 (i := 28) (q := 54) rfl rfl) <|
    V_if_ne (tat ok_X8_alike_0 (i := 29) (q := 57) rfl rfl) rfl (fun c8 => V_pick [1, 2] rfl (V_X8_alike_61  hr (jx (P := P) kk (Eq.trans (if_neg c1) (Eq.trans (if_pos c2) (Eq.trans (if_neg c6) (Eq.trans (if_neg c7) (if_neg c8)))))))) (fun c8 => V_iconst (tat ok_X8_alike_0 (i := 30) (q := 58) rfl rfl) ic_1 <|
    V_goto (tat ok_X8_alike_0 (i := 31) (q := 61) rfl rfl) rfl <|
    V_pick [1, 2] rfl (V_X8_alike_62 rfl hr (jx (P := P) kk (Eq.trans (if_neg c1) (Eq.trans (if_pos c2) (Eq.trans (if_neg c6) (Eq.trans (if_neg c7) (if_pos c8)))))))))) (fun c6 => V_bipush (tat ok_X8_alike_0 (i := 11) (q := 21) rfl rfl) bp_m2 <|
    V_iret (tat ok_X8_alike_0 (i := 12) (q := 22) rfl rfl) _ rfl (nar_int _) (hr (-2) (jx (P := P) kk (Eq.trans (if_neg c1) (Eq.trans (if_pos c2) (if_pos c6))))) ⟨(Nat.le_of_ble_eq_true rfl), (Nat.le_of_ble_eq_true rfl)⟩) else V_cv1 (ct_imgN I L a1 c1 c2) mo_X8_imageOf (tat ok_X8_alike_0 (i := 2) (q := 5) rfl rfl) ml_X8_183 rfl ⟨by decide, _, rfl, rfl⟩ ⟨(Nat.le_of_ble_eq_true rfl), (Nat.le_of_ble_eq_true rfl)⟩ ⟨(Nat.le_of_ble_eq_true rfl), (Nat.le_of_ble_eq_true rfl)⟩ (Nat.le_of_ble_eq_true rfl) <|
    V_astoreN_n (lv' := [(2, .null), (0, .ref 0), (1, .int a1)]) (tat ok_X8_alike_0 (i := 3) (q := 6) rfl rfl) rfl (Nat.le_of_ble_eq_true rfl) rfl <|
    V_aloadN_n (tat ok_X8_alike_0 (i := 4) (q := 7) rfl rfl) 0 rfl rfl <|
    V_ifnonnullN (tat ok_X8_alike_0 (i := 5) (q := 10) rfl rfl) <|
    V_iconst (tat ok_X8_alike_0 (i := 6) (q := 11) rfl rfl) ic_m1 <|
    V_iret (tat ok_X8_alike_0 (i := 7) (q := 12) rfl rfl) _ rfl (nar_int _) (hr (-1) (jx (P := P) kk (Eq.trans (if_neg c1) (if_neg c2)))) ⟨(Nat.le_of_ble_eq_true rfl), (Nat.le_of_ble_eq_true rfl)⟩))
theorem ct_X8_alike  (I : WI) (L : WL) (a1 : Int32)  : Ct x_X8_alike 6 [.ref 0, .int a1] ly0 I L R0 0 0 (some (.int (F_X8_alike I L a1)), ly0, I, L, R0) :=
  Ct_of_V mo_X8_alike.1 (Nat.le_of_ble_eq_true rfl) (V_X8_alike (P := fun x => x = (F_X8_alike I L a1))  (fun _ e => by rw [e]) rfl)
def F_X8_toldOf (I : WI) (a1 : Int32) (a2 : Int32) : Int32 :=
  (if a1 = 0 then a2 else (if a1 = 1 then (I 27 1) else (if a1 = 2 then (I 27 2) else (I 27 3))))
theorem V_X8_toldOf  {I : WI} {L : WL} {a1 : Int32} {a2 : Int32}  {P : Int32 → Prop} {t : Tg} (hr : ∀ v, P v → t = (some (.int v), ly0, I, L, R0)) (kk : P (F_X8_toldOf I a1 a2)) : V (zM x_X8_toldOf 1 0 0 t) 0 [(0, .ref 0), (1, .int a1), (2, .int a2)] [] ly0 I L R0 0 0 :=
  V_iload_n (tat ok_X8_toldOf_0 (i := 0) (q := 1) rfl rfl) 1 rfl rfl <|
    (if c1 : a1 = 0 then V_tswJ (tgt := 28) (off := 27) 0 (tat ok_X8_toldOf_0 (i := 1) (q := 28) rfl rfl) (swj c1) ⟨rfl, by decide⟩ rfl (V_iload_n (tat ok_X8_toldOf_0 (i := 2) (q := 29) rfl rfl) 2 rfl rfl <|
    V_iret (tat ok_X8_toldOf_0 (i := 3) (q := 30) rfl rfl) _ rfl (nar_int _) (hr a2 (jx (P := P) kk (if_pos c1))) ⟨(Nat.le_of_ble_eq_true rfl), (Nat.le_of_ble_eq_true rfl)⟩) else (if c2 : a1 = 1 then V_tswJ (tgt := 30) (off := 29) 1 (tat ok_X8_toldOf_0 (i := 1) (q := 28) rfl rfl) (swj c2) ⟨rfl, by decide⟩ rfl (V_aload_n (tat ok_X8_toldOf_0 (i := 4) (q := 31) rfl rfl) 0 rfl rfl <|
    V_getR (tat ok_X8_toldOf_0 (i := 5) (q := 34) rfl rfl) fk_X8_63 rfl rfl <|
    V_getI (tat ok_X8_toldOf_0 (i := 6) (q := 37) rfl rfl) fk_X8_198 rfl <|
    V_iret (tat ok_X8_toldOf_0 (i := 7) (q := 38) rfl rfl) _ rfl (nar_int _) (hr (I 27 1) (jx (P := P) kk (Eq.trans (if_neg c1) (if_pos c2)))) ⟨(Nat.le_of_ble_eq_true rfl), (Nat.le_of_ble_eq_true rfl)⟩) else (if c3 : a1 = 2 then V_tswJ (tgt := 38) (off := 37) 2 (tat ok_X8_toldOf_0 (i := 1) (q := 28) rfl rfl) (swj c3) ⟨rfl, by decide⟩ rfl (V_aload_n (tat ok_X8_toldOf_0 (i := 8) (q := 39) rfl rfl) 0 rfl rfl <|
    V_getR (tat ok_X8_toldOf_0 (i := 9) (q := 42) rfl rfl) fk_X8_63 rfl rfl <|
    V_getI (tat ok_X8_toldOf_0 (i := 10) (q := 45) rfl rfl) fk_X8_206 rfl <|
    V_iret (tat ok_X8_toldOf_0 (i := 11) (q := 46) rfl rfl) _ rfl (nar_int _) (hr (I 27 2) (jx (P := P) kk (Eq.trans (if_neg c1) (Eq.trans (if_neg c2) (if_pos c3))))) ⟨(Nat.le_of_ble_eq_true rfl), (Nat.le_of_ble_eq_true rfl)⟩) else V_tswD (tgt := 46) (tat ok_X8_toldOf_0 (i := 1) (q := 28) rfl rfl) (sw3 c1 c2 c3) rfl (V_aload_n (tat ok_X8_toldOf_0 (i := 12) (q := 47) rfl rfl) 0 rfl rfl <|
    V_getR (tat ok_X8_toldOf_0 (i := 13) (q := 50) rfl rfl) fk_X8_63 rfl rfl <|
    V_getI (tat ok_X8_toldOf_0 (i := 14) (q := 53) rfl rfl) fk_X8_330 rfl <|
    V_iret (tat ok_X8_toldOf_0 (i := 15) (q := 54) rfl rfl) _ rfl (nar_int _) (hr (I 27 3) (jx (P := P) kk (Eq.trans (if_neg c1) (Eq.trans (if_neg c2) (if_neg c3))))) ⟨(Nat.le_of_ble_eq_true rfl), (Nat.le_of_ble_eq_true rfl)⟩))))
theorem ct_X8_toldOf  (I : WI) (L : WL) (a1 : Int32) (a2 : Int32)  : Ct x_X8_toldOf 1 [.ref 0, .int a1, .int a2] ly0 I L R0 0 0 (some (.int (F_X8_toldOf I a1 a2)), ly0, I, L, R0) :=
  Ct_of_V mo_X8_toldOf.1 (Nat.le_of_ble_eq_true rfl) (V_X8_toldOf (P := fun x => x = (F_X8_toldOf I a1 a2))  (fun _ e => by rw [e]) rfl)
def F_X8_plan_9 (I : WI) (L : WL) (a1 : Int32) : (Int32 × WI) :=
  ((-1), I)
theorem V_X8_plan_9  {I : WI} {L : WL} {a1 : Int32}  {P : (Int32 × WI) → Prop} {t : Tg} (hr : ∀ v, P v → t = (some (.int (p1 v)), ly0, (p2 v), L, R0)) (kk : P (F_X8_plan_9 I L a1)) : V (zM x_X8_plan 7 0 0 t) 9 [(0, .ref 0), (1, .int a1)] [] ly0 I L R0 0 0 :=
  V_iconst (tat ok_X8_plan_0 (i := 5) (q := 10) rfl rfl) ic_m1 <|
    V_iret (tat ok_X8_plan_0 (i := 6) (q := 11) rfl rfl) _ rfl (nar_int _) (hr ((-1), I) (jx (P := P) kk rfl)) ⟨(Nat.le_of_ble_eq_true rfl), (Nat.le_of_ble_eq_true rfl)⟩
def F_X8_plan (I : WI) (L : WL) (a1 : Int32) : (Int32 × WI) :=
  (if a1 < 0 then (F_X8_plan_9 I L a1) else (if a1 ≤ 3 then (if (bz (I 2 0)) = 0 then ((-2), I) else (if (bz ((F_X7_findPlan I 1 ((L 1 3) ^^^ (L 2 3))) 27 0)) = 0 then ((-4), (F_X7_findPlan I 1 ((L 1 3) ^^^ (L 2 3)))) else (if a1 = 3 then ((if (F_J6_bitCount_0f7a4 ((F_X7_findPlan I 1 ((L 1 3) ^^^ (L 2 3))) 27 1)) < (F_J6_bitCount_0f7a4 ((F_X7_findPlan I 1 ((L 1 3) ^^^ (L 2 3))) 27 2)) then (F_J6_bitCount_0f7a4 ((F_X7_findPlan I 1 ((L 1 3) ^^^ (L 2 3))) 27 2)) else (F_J6_bitCount_0f7a4 ((F_X7_findPlan I 1 ((L 1 3) ^^^ (L 2 3))) 27 1))), (F_X7_findPlan I 1 ((L 1 3) ^^^ (L 2 3)))) else ((F_X8_toldOf (F_X7_findPlan I 1 ((L 1 3) ^^^ (L 2 3))) a1 (F_X7_acts (F_X7_findPlan I 1 ((L 1 3) ^^^ (L 2 3))))), (F_X7_findPlan I 1 ((L 1 3) ^^^ (L 2 3))))))) else (F_X8_plan_9 I L a1)))
theorem V_X8_plan  {I : WI} {L : WL} {a1 : Int32}  {P : (Int32 × WI) → Prop} {t : Tg} (hr : ∀ v, P v → t = (some (.int (p1 v)), ly0, (p2 v), L, R0)) (kk : P (F_X8_plan I L a1)) : V (zM x_X8_plan 7 0 0 t) 0 [(0, .ref 0), (1, .int a1)] [] ly0 I L R0 0 0 :=
  V_iload_n (tat ok_X8_plan_0 (i := 0) (q := 1) rfl rfl) 1 rfl rfl <|
    V_if_lt (tat ok_X8_plan_0 (i := 1) (q := 4) rfl rfl) rfl (fun c1 => V_X8_plan_9  hr (jx (P := P) kk (if_pos c1))) (fun c1 => V_iload_n (tat ok_X8_plan_0 (i := 2) (q := 5) rfl rfl) 1 rfl rfl <|
    V_iconst (tat ok_X8_plan_0 (i := 3) (q := 6) rfl rfl) ic_3 <|
    V_icmp_le (tat ok_X8_plan_0 (i := 4) (q := 9) rfl rfl) rfl (fun c2 => V_aload_n (tat ok_X8_plan_0 (i := 7) (q := 12) rfl rfl) 0 rfl rfl <|
    V_getR (tat ok_X8_plan_0 (i := 8) (q := 15) rfl rfl) fk_X8_18 rfl rfl <|
    V_getZ (tat ok_X8_plan_0 (i := 9) (q := 18) rfl rfl) fk_X8_106 rfl <|
    V_if_ne (tat ok_X8_plan_0 (i := 10) (q := 21) rfl rfl) rfl (fun c3 => V_aload_n (tat ok_X8_plan_0 (i := 13) (q := 25) rfl rfl) 0 rfl rfl <|
    V_getR (tat ok_X8_plan_0 (i := 14) (q := 28) rfl rfl) fk_X8_63 rfl rfl <|
    V_aload_n (tat ok_X8_plan_0 (i := 15) (q := 29) rfl rfl) 0 rfl rfl <|
    V_getR (tat ok_X8_plan_0 (i := 16) (q := 32) rfl rfl) fk_X8_14 rfl rfl <|
    V_aload_n (tat ok_X8_plan_0 (i := 17) (q := 33) rfl rfl) 0 rfl rfl <|
    V_getR (tat ok_X8_plan_0 (i := 18) (q := 36) rfl rfl) fk_X8_14 rfl rfl <|
    V_getL (tat ok_X8_plan_0 (i := 19) (q := 39) rfl rfl) fk_X8_137 rfl <|
    V_aload_n (tat ok_X8_plan_0 (i := 20) (q := 40) rfl rfl) 0 rfl rfl <|
    V_getR (tat ok_X8_plan_0 (i := 21) (q := 43) rfl rfl) fk_X8_18 rfl rfl <|
    V_getL (tat ok_X8_plan_0 (i := 22) (q := 46) rfl rfl) fk_X8_137 rfl <|
    V_lxor (tat ok_X8_plan_0 (i := 23) (q := 47) rfl rfl) <|
    V_cv2v (ct_X7_findPlan I L 1 ((L 1 3) ^^^ (L 2 3)) rfl) mo_X7_findPlan (tat ok_X8_plan_0 (i := 24) (q := 50) rfl rfl) ml_X8_191 rfl ⟨by decide, _, rfl, rfl⟩ ⟨(Nat.le_of_ble_eq_true rfl), (Nat.le_of_ble_eq_true rfl)⟩ ⟨(Nat.le_of_ble_eq_true rfl), (Nat.le_of_ble_eq_true rfl)⟩ (Nat.le_of_ble_eq_true rfl) <|
    V_aload_n (tat ok_X8_plan_0 (i := 25) (q := 51) rfl rfl) 0 rfl rfl <|
    V_getR (tat ok_X8_plan_0 (i := 26) (q := 54) rfl rfl) fk_X8_63 rfl rfl <|
    V_getZ (tat ok_X8_plan_0 (i := 27) (q := 57) rfl rfl) fk_X8_195 rfl <|
    V_if_ne (tat ok_X8_plan_0 (i := 28) (q := 60) rfl rfl) rfl (fun c4 => V_iload_n (tat ok_X8_plan_0 (i := 31) (q := 64) rfl rfl) 1 rfl rfl <|
    V_iconst (tat ok_X8_plan_0 (i := 32) (q := 65) rfl rfl) ic_3 <|
    V_icmp_ne (tat ok_X8_plan_0 (i := 33) (q := 68) rfl rfl) rfl (fun c5 => V_aload_n (tat ok_X8_plan_1 (i := 4) (q := 93) rfl rfl) 0 rfl rfl <|
    V_iload_n (tat ok_X8_plan_1 (i := 5) (q := 94) rfl rfl) 1 rfl rfl <|
    V_aload_n (tat ok_X8_plan_1 (i := 6) (q := 95) rfl rfl) 0 rfl rfl <|
    V_getR (tat ok_X8_plan_1 (i := 7) (q := 98) rfl rfl) fk_X8_63 rfl rfl <|
    V_cv0 (ct_X7_acts (F_X7_findPlan I 1 ((L 1 3) ^^^ (L 2 3))) L  ) mo_X7_acts (tat ok_X8_plan_1 (i := 8) (q := 101) rfl rfl) ml_X8_214 rfl ⟨by decide, _, rfl, rfl⟩ ⟨(Nat.le_of_ble_eq_true rfl), (Nat.le_of_ble_eq_true rfl)⟩ ⟨(Nat.le_of_ble_eq_true rfl), (Nat.le_of_ble_eq_true rfl)⟩ (Nat.le_of_ble_eq_true rfl) <|
    V_cv2 (ct_X8_toldOf (F_X7_findPlan I 1 ((L 1 3) ^^^ (L 2 3))) L a1 (F_X7_acts (F_X7_findPlan I 1 ((L 1 3) ^^^ (L 2 3)))) ) mo_X8_toldOf (tat ok_X8_plan_1 (i := 9) (q := 104) rfl rfl) ml_X8_217 rfl ⟨by decide, _, rfl, rfl⟩ ⟨(Nat.le_of_ble_eq_true rfl), (Nat.le_of_ble_eq_true rfl)⟩ ⟨(Nat.le_of_ble_eq_true rfl), (Nat.le_of_ble_eq_true rfl)⟩ (Nat.le_of_ble_eq_true rfl) <|
    V_iret (tat ok_X8_plan_1 (i := 10) (q := 105) rfl rfl) _ rfl (nar_int _) (hr ((F_X8_toldOf (F_X7_findPlan I 1 ((L 1 3) ^^^ (L 2 3))) a1 (F_X7_acts (F_X7_findPlan I 1 ((L 1 3) ^^^ (L 2 3))))), (F_X7_findPlan I 1 ((L 1 3) ^^^ (L 2 3)))) (jx (P := P) kk (Eq.trans (if_neg c1) (Eq.trans (if_pos c2) (Eq.trans (if_neg c3) (Eq.trans (if_neg c4) (if_neg c5))))))) ⟨(Nat.le_of_ble_eq_true rfl), (Nat.le_of_ble_eq_true rfl)⟩) (fun c5 => V_aload_n (tat ok_X8_plan_0 (i := 34) (q := 69) rfl rfl) 0 rfl rfl <|
    V_getR (tat ok_X8_plan_0 (i := 35) (q := 72) rfl rfl) fk_X8_63 rfl rfl <|
    V_getI (tat ok_X8_plan_0 (i := 36) (q := 75) rfl rfl) fk_X8_198 rfl <|
    V_cs1 (ct_J6_bitCount_0f7a4 (F_X7_findPlan I 1 ((L 1 3) ^^^ (L 2 3))) L ((F_X7_findPlan I 1 ((L 1 3) ^^^ (L 2 3))) 27 1) ) mo_J6_bitCount_0f7a4 (tat ok_X8_plan_0 (i := 37) (q := 78) rfl rfl) ml_X8_201 ⟨(Nat.le_of_ble_eq_true rfl), (Nat.le_of_ble_eq_true rfl)⟩ ⟨(Nat.le_of_ble_eq_true rfl), (Nat.le_of_ble_eq_true rfl)⟩ (Nat.le_of_ble_eq_true rfl) <|
    V_aload_n (tat ok_X8_plan_0 (i := 38) (q := 79) rfl rfl) 0 rfl rfl <|
    V_getR (tat ok_X8_plan_0 (i := 39) (q := 82) rfl rfl) fk_X8_63 rfl rfl <|
    V_getI (tat ok_X8_plan_1 (i := 0) (q := 85) rfl rfl) fk_X8_206 rfl <|
    V_cs1 (ct_J6_bitCount_0f7a4 (F_X7_findPlan I 1 ((L 1 3) ^^^ (L 2 3))) L ((F_X7_findPlan I 1 ((L 1 3) ^^^ (L 2 3))) 27 2) ) mo_J6_bitCount_0f7a4 (tat ok_X8_plan_1 (i := 1) (q := 88) rfl rfl) ml_X8_201 ⟨(Nat.le_of_ble_eq_true rfl), (Nat.le_of_ble_eq_true rfl)⟩ ⟨(Nat.le_of_ble_eq_true rfl), (Nat.le_of_ble_eq_true rfl)⟩ (Nat.le_of_ble_eq_true rfl) <|
    V_max (tat ok_X8_plan_1 (i := 2) (q := 91) rfl rfl) mm_li_X8_209 mm_max_st mm_max_co mm_ini ⟨(Nat.le_of_ble_eq_true rfl), (Nat.le_of_ble_eq_true rfl)⟩ ⟨(Nat.le_of_ble_eq_true rfl), (Nat.le_of_ble_eq_true rfl)⟩ <|
    V_iret (tat ok_X8_plan_1 (i := 3) (q := 92) rfl rfl) _ rfl (nar_int _) (hr ((if (F_J6_bitCount_0f7a4 ((F_X7_findPlan I 1 ((L 1 3) ^^^ (L 2 3))) 27 1)) < (F_J6_bitCount_0f7a4 ((F_X7_findPlan I 1 ((L 1 3) ^^^ (L 2 3))) 27 2)) then (F_J6_bitCount_0f7a4 ((F_X7_findPlan I 1 ((L 1 3) ^^^ (L 2 3))) 27 2)) else (F_J6_bitCount_0f7a4 ((F_X7_findPlan I 1 ((L 1 3) ^^^ (L 2 3))) 27 1))), (F_X7_findPlan I 1 ((L 1 3) ^^^ (L 2 3)))) (jx (P := P) kk (Eq.trans (if_neg c1) (Eq.trans (if_pos c2) (Eq.trans (if_neg c3) (Eq.trans (if_neg c4) (if_pos c5))))))) ⟨(Nat.le_of_ble_eq_true rfl), (Nat.le_of_ble_eq_true rfl)⟩)) (fun c4 => V_bipush (tat ok_X8_plan_0 (i := 29) (q := 62) rfl rfl) bp_m4 <|
    V_iret (tat ok_X8_plan_0 (i := 30) (q := 63) rfl rfl) _ rfl (nar_int _) (hr ((-4), (F_X7_findPlan I 1 ((L 1 3) ^^^ (L 2 3)))) (jx (P := P) kk (Eq.trans (if_neg c1) (Eq.trans (if_pos c2) (Eq.trans (if_neg c3) (if_pos c4)))))) ⟨(Nat.le_of_ble_eq_true rfl), (Nat.le_of_ble_eq_true rfl)⟩)) (fun c3 => V_bipush (tat ok_X8_plan_0 (i := 11) (q := 23) rfl rfl) bp_m2 <|
    V_iret (tat ok_X8_plan_0 (i := 12) (q := 24) rfl rfl) _ rfl (nar_int _) (hr ((-2), I) (jx (P := P) kk (Eq.trans (if_neg c1) (Eq.trans (if_pos c2) (if_pos c3))))) ⟨(Nat.le_of_ble_eq_true rfl), (Nat.le_of_ble_eq_true rfl)⟩)) (fun c2 => V_X8_plan_9  hr (jx (P := P) kk (Eq.trans (if_neg c1) (if_neg c2)))))
theorem ct_X8_plan  (I : WI) (L : WL) (a1 : Int32)  : Ct x_X8_plan 7 [.ref 0, .int a1] ly0 I L R0 0 0 (some (.int (p1 (F_X8_plan I L a1))), ly0, (p2 (F_X8_plan I L a1)), L, R0) :=
  Ct_of_V mo_X8_plan.1 (Nat.le_of_ble_eq_true rfl) (V_X8_plan (P := fun x => x = (F_X8_plan I L a1))  (fun _ e => by rw [e]) rfl)
def F_X8_nearest_9 (I : WI) (L : WL) (a1 : Int32) : Option (Int32 × WI) :=
  some ((-1), I)
theorem V_X8_nearest_9  {I : WI} {L : WL} {a1 : Int32}  {P : (Int32 × WI) → Prop} {t : Tg} (hr : ∀ v, P v → t = (some (.int (p1 v)), ly0, (p2 v), L, R0)) : oP P (F_X8_nearest_9 I L a1) → V (zM x_X8_nearest 6 0 0 t) 9 [(0, .ref 0), (1, .int a1)] [] ly0 I L R0 0 0 :=
  fun _ =>
  have kq : (oP P (F_X8_nearest_9 I L a1)) ∧ True := ⟨by assumption, trivial⟩
  V_iconst (tat ok_X8_nearest_0 (i := 5) (q := 10) rfl rfl) ic_m1 <|
    V_iret (tat ok_X8_nearest_0 (i := 6) (q := 11) rfl rfl) _ rfl (nar_int _) (hr ((-1), I) (jq (P := oP P) kq rfl)) ⟨(Nat.le_of_ble_eq_true rfl), (Nat.le_of_ble_eq_true rfl)⟩
def F_X8_nearest (I : WI) (L : WL) (a1 : Int32) : Option (Int32 × WI) :=
  (if a1 < 0 then (F_X8_nearest_9 I L a1) else (if a1 ≤ 2 then (if (bz (I 2 0)) = 0 then some ((-2), I) else (Option.bind (F_X7_findNearest I 1 ((L 1 3) ^^^ (L 2 3))) (fun v4 => some ((F_X8_toldOf v4 a1 (v4 27 4)), v4)))) else (F_X8_nearest_9 I L a1)))
theorem V_X8_nearest  {I : WI} {L : WL} {a1 : Int32}  {P : (Int32 × WI) → Prop} {t : Tg} (hr : ∀ v, P v → t = (some (.int (p1 v)), ly0, (p2 v), L, R0)) : oP P (F_X8_nearest I L a1) → V (zM x_X8_nearest 6 0 0 t) 0 [(0, .ref 0), (1, .int a1)] [] ly0 I L R0 0 0 :=
  fun _ =>
  have kq : (oP P (F_X8_nearest I L a1)) ∧ True := ⟨by assumption, trivial⟩
  V_iload_n (tat ok_X8_nearest_0 (i := 0) (q := 1) rfl rfl) 1 rfl rfl <|
    V_if_lt (tat ok_X8_nearest_0 (i := 1) (q := 4) rfl rfl) rfl (fun c1 => V_X8_nearest_9  hr (jq (P := oP P) kq (if_pos c1))) (fun c1 => V_iload_n (tat ok_X8_nearest_0 (i := 2) (q := 5) rfl rfl) 1 rfl rfl <|
    V_iconst (tat ok_X8_nearest_0 (i := 3) (q := 6) rfl rfl) ic_2 <|
    V_icmp_le (tat ok_X8_nearest_0 (i := 4) (q := 9) rfl rfl) rfl (fun c2 => V_aload_n (tat ok_X8_nearest_0 (i := 7) (q := 12) rfl rfl) 0 rfl rfl <|
    V_getR (tat ok_X8_nearest_0 (i := 8) (q := 15) rfl rfl) fk_X8_18 rfl rfl <|
    V_getZ (tat ok_X8_nearest_0 (i := 9) (q := 18) rfl rfl) fk_X8_106 rfl <|
    V_if_ne (tat ok_X8_nearest_0 (i := 10) (q := 21) rfl rfl) rfl (fun c3 => V_aload_n (tat ok_X8_nearest_0 (i := 13) (q := 25) rfl rfl) 0 rfl rfl <|
    V_getR (tat ok_X8_nearest_0 (i := 14) (q := 28) rfl rfl) fk_X8_63 rfl rfl <|
    V_aload_n (tat ok_X8_nearest_0 (i := 15) (q := 29) rfl rfl) 0 rfl rfl <|
    V_getR (tat ok_X8_nearest_0 (i := 16) (q := 32) rfl rfl) fk_X8_14 rfl rfl <|
    V_aload_n (tat ok_X8_nearest_0 (i := 17) (q := 33) rfl rfl) 0 rfl rfl <|
    V_getR (tat ok_X8_nearest_0 (i := 18) (q := 36) rfl rfl) fk_X8_14 rfl rfl <|
    V_getL (tat ok_X8_nearest_0 (i := 19) (q := 39) rfl rfl) fk_X8_137 rfl <|
    V_aload_n (tat ok_X8_nearest_0 (i := 20) (q := 40) rfl rfl) 0 rfl rfl <|
    V_getR (tat ok_X8_nearest_0 (i := 21) (q := 43) rfl rfl) fk_X8_18 rfl rfl <|
    V_getL (tat ok_X8_nearest_0 (i := 22) (q := 46) rfl rfl) fk_X8_137 rfl <|
    V_lxor (tat ok_X8_nearest_0 (i := 23) (q := 47) rfl rfl) <|
    oP_case (jq (P := oP P) kq (Eq.trans (if_neg c1) (Eq.trans (if_pos c2) (if_neg c3)))) (fun v4 e4 _ => V_cv2v (ct_X7_findNearest I L 1 ((L 1 3) ^^^ (L 2 3)) rfl e4) mo_X7_findNearest (tat ok_X8_nearest_0 (i := 24) (q := 50) rfl rfl) ml_X8_220 rfl ⟨by decide, _, rfl, rfl⟩ ⟨(Nat.le_of_ble_eq_true rfl), (Nat.le_of_ble_eq_true rfl)⟩ ⟨(Nat.le_of_ble_eq_true rfl), (Nat.le_of_ble_eq_true rfl)⟩ (Nat.le_of_ble_eq_true rfl) <|
    V_aload_n (tat ok_X8_nearest_0 (i := 25) (q := 51) rfl rfl) 0 rfl rfl <|
    V_iload_n (tat ok_X8_nearest_0 (i := 26) (q := 52) rfl rfl) 1 rfl rfl <|
    V_aload_n (tat ok_X8_nearest_0 (i := 27) (q := 53) rfl rfl) 0 rfl rfl <|
    V_getR (tat ok_X8_nearest_0 (i := 28) (q := 56) rfl rfl) fk_X8_63 rfl rfl <|
    V_getI (tat ok_X8_nearest_0 (i := 29) (q := 59) rfl rfl) fk_X8_223 rfl <|
    V_cv2 (ct_X8_toldOf v4 L a1 (v4 27 4) ) mo_X8_toldOf (tat ok_X8_nearest_0 (i := 30) (q := 62) rfl rfl) ml_X8_217 rfl ⟨by decide, _, rfl, rfl⟩ ⟨(Nat.le_of_ble_eq_true rfl), (Nat.le_of_ble_eq_true rfl)⟩ ⟨(Nat.le_of_ble_eq_true rfl), (Nat.le_of_ble_eq_true rfl)⟩ (Nat.le_of_ble_eq_true rfl) <|
    V_iret (tat ok_X8_nearest_0 (i := 31) (q := 63) rfl rfl) _ rfl (nar_int _) (hr ((F_X8_toldOf v4 a1 (v4 27 4)), v4) (jq (P := oP P) kq (Eq.trans (if_neg c1) (Eq.trans (if_pos c2) (Eq.trans (if_neg c3) (ob e4)))))) ⟨(Nat.le_of_ble_eq_true rfl), (Nat.le_of_ble_eq_true rfl)⟩)) (fun c3 => V_bipush (tat ok_X8_nearest_0 (i := 11) (q := 23) rfl rfl) bp_m2 <|
    V_iret (tat ok_X8_nearest_0 (i := 12) (q := 24) rfl rfl) _ rfl (nar_int _) (hr ((-2), I) (jq (P := oP P) kq (Eq.trans (if_neg c1) (Eq.trans (if_pos c2) (if_pos c3))))) ⟨(Nat.le_of_ble_eq_true rfl), (Nat.le_of_ble_eq_true rfl)⟩)) (fun c2 => V_X8_nearest_9  hr (jq (P := oP P) kq (Eq.trans (if_neg c1) (if_neg c2)))))
theorem ct_X8_nearest  (I : WI) (L : WL) (a1 : Int32)  {v : (Int32 × WI)} (h : (F_X8_nearest I L a1) = some v) : Ct x_X8_nearest 6 [.ref 0, .int a1] ly0 I L R0 0 0 (some (.int (p1 v)), ly0, (p2 v), L, R0) :=
  Ct_of_V mo_X8_nearest.1 (Nat.le_of_ble_eq_true rfl) (V_X8_nearest (P := fun x => x = v)  (fun _ e => by rw [e]) (by rw [h]; exact rfl))
def F_X8_lightest_9 (I : WI) (L : WL) (a1 : Int32) : Option (Int32 × WI) :=
  some ((-1), I)
theorem V_X8_lightest_9  {I : WI} {L : WL} {a1 : Int32}  {P : (Int32 × WI) → Prop} {t : Tg} (hr : ∀ v, P v → t = (some (.int (p1 v)), ly0, (p2 v), L, R0)) : oP P (F_X8_lightest_9 I L a1) → V (zM x_X8_lightest 6 0 0 t) 9 [(0, .ref 0), (1, .int a1)] [] ly0 I L R0 0 0 :=
  fun _ =>
  have kq : (oP P (F_X8_lightest_9 I L a1)) ∧ True := ⟨by assumption, trivial⟩
  V_iconst (tat ok_X8_lightest_0 (i := 5) (q := 10) rfl rfl) ic_m1 <|
    V_iret (tat ok_X8_lightest_0 (i := 6) (q := 11) rfl rfl) _ rfl (nar_int _) (hr ((-1), I) (jq (P := oP P) kq rfl)) ⟨(Nat.le_of_ble_eq_true rfl), (Nat.le_of_ble_eq_true rfl)⟩
def F_X8_lightest (I : WI) (L : WL) (a1 : Int32) : Option (Int32 × WI) :=
  (if a1 < 0 then (F_X8_lightest_9 I L a1) else (if a1 ≤ 2 then (Option.bind (F_X7_findNearest I 1 (L 1 3)) (fun v3 => some ((F_X8_toldOf v3 a1 (v3 27 4)), v3))) else (F_X8_lightest_9 I L a1)))
theorem V_X8_lightest  {I : WI} {L : WL} {a1 : Int32}  {P : (Int32 × WI) → Prop} {t : Tg} (hr : ∀ v, P v → t = (some (.int (p1 v)), ly0, (p2 v), L, R0)) : oP P (F_X8_lightest I L a1) → V (zM x_X8_lightest 6 0 0 t) 0 [(0, .ref 0), (1, .int a1)] [] ly0 I L R0 0 0 :=
  fun _ =>
  have kq : (oP P (F_X8_lightest I L a1)) ∧ True := ⟨by assumption, trivial⟩
  V_iload_n (tat ok_X8_lightest_0 (i := 0) (q := 1) rfl rfl) 1 rfl rfl <|
    V_if_lt (tat ok_X8_lightest_0 (i := 1) (q := 4) rfl rfl) rfl (fun c1 => V_X8_lightest_9  hr (jq (P := oP P) kq (if_pos c1))) (fun c1 => V_iload_n (tat ok_X8_lightest_0 (i := 2) (q := 5) rfl rfl) 1 rfl rfl <|
    V_iconst (tat ok_X8_lightest_0 (i := 3) (q := 6) rfl rfl) ic_2 <|
    V_icmp_le (tat ok_X8_lightest_0 (i := 4) (q := 9) rfl rfl) rfl (fun c2 => V_aload_n (tat ok_X8_lightest_0 (i := 7) (q := 12) rfl rfl) 0 rfl rfl <|
    V_getR (tat ok_X8_lightest_0 (i := 8) (q := 15) rfl rfl) fk_X8_63 rfl rfl <|
    V_aload_n (tat ok_X8_lightest_0 (i := 9) (q := 16) rfl rfl) 0 rfl rfl <|
    V_getR (tat ok_X8_lightest_0 (i := 10) (q := 19) rfl rfl) fk_X8_14 rfl rfl <|
    V_aload_n (tat ok_X8_lightest_0 (i := 11) (q := 20) rfl rfl) 0 rfl rfl <|
    V_getR (tat ok_X8_lightest_0 (i := 12) (q := 23) rfl rfl) fk_X8_14 rfl rfl <|
    V_getL (tat ok_X8_lightest_0 (i := 13) (q := 26) rfl rfl) fk_X8_137 rfl <|
    oP_case (jq (P := oP P) kq (Eq.trans (if_neg c1) (if_pos c2))) (fun v3 e3 _ => V_cv2v (ct_X7_findNearest I L 1 (L 1 3) rfl e3) mo_X7_findNearest (tat ok_X8_lightest_0 (i := 14) (q := 29) rfl rfl) ml_X8_220 rfl ⟨by decide, _, rfl, rfl⟩ ⟨(Nat.le_of_ble_eq_true rfl), (Nat.le_of_ble_eq_true rfl)⟩ ⟨(Nat.le_of_ble_eq_true rfl), (Nat.le_of_ble_eq_true rfl)⟩ (Nat.le_of_ble_eq_true rfl) <|
    V_aload_n (tat ok_X8_lightest_0 (i := 15) (q := 30) rfl rfl) 0 rfl rfl <|
    V_iload_n (tat ok_X8_lightest_0 (i := 16) (q := 31) rfl rfl) 1 rfl rfl <|
    V_aload_n (tat ok_X8_lightest_0 (i := 17) (q := 32) rfl rfl) 0 rfl rfl <|
    V_getR (tat ok_X8_lightest_0 (i := 18) (q := 35) rfl rfl) fk_X8_63 rfl rfl <|
    V_getI (tat ok_X8_lightest_0 (i := 19) (q := 38) rfl rfl) fk_X8_223 rfl <|
    V_cv2 (ct_X8_toldOf v3 L a1 (v3 27 4) ) mo_X8_toldOf (tat ok_X8_lightest_0 (i := 20) (q := 41) rfl rfl) ml_X8_217 rfl ⟨by decide, _, rfl, rfl⟩ ⟨(Nat.le_of_ble_eq_true rfl), (Nat.le_of_ble_eq_true rfl)⟩ ⟨(Nat.le_of_ble_eq_true rfl), (Nat.le_of_ble_eq_true rfl)⟩ (Nat.le_of_ble_eq_true rfl) <|
    V_iret (tat ok_X8_lightest_0 (i := 21) (q := 42) rfl rfl) _ rfl (nar_int _) (hr ((F_X8_toldOf v3 a1 (v3 27 4)), v3) (jq (P := oP P) kq (Eq.trans (if_neg c1) (Eq.trans (if_pos c2) (ob e3))))) ⟨(Nat.le_of_ble_eq_true rfl), (Nat.le_of_ble_eq_true rfl)⟩)) (fun c2 => V_X8_lightest_9  hr (jq (P := oP P) kq (Eq.trans (if_neg c1) (if_neg c2)))))
theorem ct_X8_lightest  (I : WI) (L : WL) (a1 : Int32)  {v : (Int32 × WI)} (h : (F_X8_lightest I L a1) = some v) : Ct x_X8_lightest 6 [.ref 0, .int a1] ly0 I L R0 0 0 (some (.int (p1 v)), ly0, (p2 v), L, R0) :=
  Ct_of_V mo_X8_lightest.1 (Nat.le_of_ble_eq_true rfl) (V_X8_lightest (P := fun x => x = v)  (fun _ e => by rw [e]) (by rw [h]; exact rfl))
def F_X8_blind_9 (I : WI) (L : WL) (a1 : Int32) : Option (Int32 × WI) :=
  some ((-1), I)
theorem V_X8_blind_9  {I : WI} {L : WL} {a1 : Int32}  {P : (Int32 × WI) → Prop} {t : Tg} (hr : ∀ v, P v → t = (some (.int (p1 v)), ly0, (p2 v), L, R0)) : oP P (F_X8_blind_9 I L a1) → V (zM x_X8_blind 6 0 0 t) 9 [(0, .ref 0), (1, .int a1)] [] ly0 I L R0 0 0 :=
  fun _ =>
  have kq : (oP P (F_X8_blind_9 I L a1)) ∧ True := ⟨by assumption, trivial⟩
  V_iconst (tat ok_X8_blind_0 (i := 5) (q := 10) rfl rfl) ic_m1 <|
    V_iret (tat ok_X8_blind_0 (i := 6) (q := 11) rfl rfl) _ rfl (nar_int _) (hr ((-1), I) (jq (P := oP P) kq rfl)) ⟨(Nat.le_of_ble_eq_true rfl), (Nat.le_of_ble_eq_true rfl)⟩
def F_X8_blind_85 (I : WI) (L : WL) (a1 : Int32) (s0 : Int32) : Option (Int32 × WI) :=
  some (s0, I)
theorem V_X8_blind_85  {I : WI} {L : WL} {a1 : Int32} {s0 : Int32} {P : (Int32 × WI) → Prop} {t : Tg} (hr : ∀ v, P v → t = (some (.int (p1 v)), ly0, (p2 v), L, R0)) : oP P (F_X8_blind_85 I L a1 s0) → V (zM x_X8_blind 6 0 0 t) 85 [(0, .ref 0), (1, .int a1)] [.int s0] ly0 I L R0 0 0 :=
  fun _ =>
  have kq : (oP P (F_X8_blind_85 I L a1 s0)) ∧ True := ⟨by assumption, trivial⟩
  V_iret (tat ok_X8_blind_1 (i := 1) (q := 86) rfl rfl) _ rfl (nar_int _) (hr (s0, I) (jq (P := oP P) kq rfl)) ⟨(Nat.le_of_ble_eq_true rfl), (Nat.le_of_ble_eq_true rfl)⟩
def F_X8_blind (I : WI) (L : WL) (a1 : Int32) : Option (Int32 × WI) :=
  (if a1 < 0 then (F_X8_blind_9 I L a1) else (if a1 ≤ 1 then (if (bz (I 2 0)) = 0 then some ((-2), I) else (Option.bind (F_X7_goBlind I 1 ((L 1 3) ^^^ (L 2 3))) (fun v4 => (if a1 = 1 then some ((v4 27 4), v4) else (if (bz (v4 27 0)) = 0 then (F_X8_blind_85 v4 L a1 (-4)) else (F_X8_blind_85 v4 L a1 (v4 27 5))))))) else (F_X8_blind_9 I L a1)))
theorem V_X8_blind  {I : WI} {L : WL} {a1 : Int32}  {P : (Int32 × WI) → Prop} {t : Tg} (hr : ∀ v, P v → t = (some (.int (p1 v)), ly0, (p2 v), L, R0)) : oP P (F_X8_blind I L a1) → V (zM x_X8_blind 6 0 0 t) 0 [(0, .ref 0), (1, .int a1)] [] ly0 I L R0 0 0 :=
  fun _ =>
  have kq : (oP P (F_X8_blind I L a1)) ∧ True := ⟨by assumption, trivial⟩
  V_iload_n (tat ok_X8_blind_0 (i := 0) (q := 1) rfl rfl) 1 rfl rfl <|
    V_if_lt (tat ok_X8_blind_0 (i := 1) (q := 4) rfl rfl) rfl (fun c1 => V_X8_blind_9  hr (jq (P := oP P) kq (if_pos c1))) (fun c1 => V_iload_n (tat ok_X8_blind_0 (i := 2) (q := 5) rfl rfl) 1 rfl rfl <|
    V_iconst (tat ok_X8_blind_0 (i := 3) (q := 6) rfl rfl) ic_1 <|
    V_icmp_le (tat ok_X8_blind_0 (i := 4) (q := 9) rfl rfl) rfl (fun c2 => V_aload_n (tat ok_X8_blind_0 (i := 7) (q := 12) rfl rfl) 0 rfl rfl <|
    V_getR (tat ok_X8_blind_0 (i := 8) (q := 15) rfl rfl) fk_X8_18 rfl rfl <|
    V_getZ (tat ok_X8_blind_0 (i := 9) (q := 18) rfl rfl) fk_X8_106 rfl <|
    V_if_ne (tat ok_X8_blind_0 (i := 10) (q := 21) rfl rfl) rfl (fun c3 => V_aload_n (tat ok_X8_blind_0 (i := 13) (q := 25) rfl rfl) 0 rfl rfl <|
    V_getR (tat ok_X8_blind_0 (i := 14) (q := 28) rfl rfl) fk_X8_63 rfl rfl <|
    V_aload_n (tat ok_X8_blind_0 (i := 15) (q := 29) rfl rfl) 0 rfl rfl <|
    V_getR (tat ok_X8_blind_0 (i := 16) (q := 32) rfl rfl) fk_X8_14 rfl rfl <|
    V_aload_n (tat ok_X8_blind_0 (i := 17) (q := 33) rfl rfl) 0 rfl rfl <|
    V_getR (tat ok_X8_blind_0 (i := 18) (q := 36) rfl rfl) fk_X8_14 rfl rfl <|
    V_getL (tat ok_X8_blind_0 (i := 19) (q := 39) rfl rfl) fk_X8_137 rfl <|
    V_aload_n (tat ok_X8_blind_0 (i := 20) (q := 40) rfl rfl) 0 rfl rfl <|
    V_getR (tat ok_X8_blind_0 (i := 21) (q := 43) rfl rfl) fk_X8_18 rfl rfl <|
    V_getL (tat ok_X8_blind_0 (i := 22) (q := 46) rfl rfl) fk_X8_137 rfl <|
    V_lxor (tat ok_X8_blind_0 (i := 23) (q := 47) rfl rfl) <|
    oP_case (jq (P := oP P) kq (Eq.trans (if_neg c1) (Eq.trans (if_pos c2) (if_neg c3)))) (fun v4 e4 _ => V_cv2v (ct_X7_goBlind I L 1 ((L 1 3) ^^^ (L 2 3)) rfl e4) mo_X7_goBlind (tat ok_X8_blind_0 (i := 24) (q := 50) rfl rfl) ml_X8_226 rfl ⟨by decide, _, rfl, rfl⟩ ⟨(Nat.le_of_ble_eq_true rfl), (Nat.le_of_ble_eq_true rfl)⟩ ⟨(Nat.le_of_ble_eq_true rfl), (Nat.le_of_ble_eq_true rfl)⟩ (Nat.le_of_ble_eq_true rfl) <|
    V_iload_n (tat ok_X8_blind_0 (i := 25) (q := 51) rfl rfl) 1 rfl rfl <|
    V_iconst (tat ok_X8_blind_0 (i := 26) (q := 52) rfl rfl) ic_1 <|
    V_icmp_ne (tat ok_X8_blind_0 (i := 27) (q := 55) rfl rfl) rfl (fun c5 => V_aload_n (tat ok_X8_blind_0 (i := 32) (q := 64) rfl rfl) 0 rfl rfl <|
    V_getR (tat ok_X8_blind_0 (i := 33) (q := 67) rfl rfl) fk_X8_63 rfl rfl <|
    V_getZ (tat ok_X8_blind_0 (i := 34) (q := 70) rfl rfl) fk_X8_195 rfl <|
    V_if_eq (tat ok_X8_blind_0 (i := 35) (q := 73) rfl rfl) rfl (fun c6 => V_bipush (tat ok_X8_blind_1 (i := 0) (q := 85) rfl rfl) bp_m4 <|
    V_X8_blind_85  hr (jq (P := oP P) kq (Eq.trans (if_neg c1) (Eq.trans (if_pos c2) (Eq.trans (if_neg c3) (Eq.trans (ob e4) (Eq.trans (if_neg c5) (if_pos c6)))))))) (fun c6 => V_aload_n (tat ok_X8_blind_0 (i := 36) (q := 74) rfl rfl) 0 rfl rfl <|
    V_getR (tat ok_X8_blind_0 (i := 37) (q := 77) rfl rfl) fk_X8_63 rfl rfl <|
    V_getI (tat ok_X8_blind_0 (i := 38) (q := 80) rfl rfl) fk_X8_229 rfl <|
    V_goto (tat ok_X8_blind_0 (i := 39) (q := 83) rfl rfl) rfl <|
    V_X8_blind_85  hr (jq (P := oP P) kq (Eq.trans (if_neg c1) (Eq.trans (if_pos c2) (Eq.trans (if_neg c3) (Eq.trans (ob e4) (Eq.trans (if_neg c5) (if_neg c6))))))))) (fun c5 => V_aload_n (tat ok_X8_blind_0 (i := 28) (q := 56) rfl rfl) 0 rfl rfl <|
    V_getR (tat ok_X8_blind_0 (i := 29) (q := 59) rfl rfl) fk_X8_63 rfl rfl <|
    V_getI (tat ok_X8_blind_0 (i := 30) (q := 62) rfl rfl) fk_X8_223 rfl <|
    V_iret (tat ok_X8_blind_0 (i := 31) (q := 63) rfl rfl) _ rfl (nar_int _) (hr ((v4 27 4), v4) (jq (P := oP P) kq (Eq.trans (if_neg c1) (Eq.trans (if_pos c2) (Eq.trans (if_neg c3) (Eq.trans (ob e4) (if_pos c5))))))) ⟨(Nat.le_of_ble_eq_true rfl), (Nat.le_of_ble_eq_true rfl)⟩))) (fun c3 => V_bipush (tat ok_X8_blind_0 (i := 11) (q := 23) rfl rfl) bp_m2 <|
    V_iret (tat ok_X8_blind_0 (i := 12) (q := 24) rfl rfl) _ rfl (nar_int _) (hr ((-2), I) (jq (P := oP P) kq (Eq.trans (if_neg c1) (Eq.trans (if_pos c2) (if_pos c3))))) ⟨(Nat.le_of_ble_eq_true rfl), (Nat.le_of_ble_eq_true rfl)⟩)) (fun c2 => V_X8_blind_9  hr (jq (P := oP P) kq (Eq.trans (if_neg c1) (if_neg c2)))))
theorem ct_X8_blind  (I : WI) (L : WL) (a1 : Int32)  {v : (Int32 × WI)} (h : (F_X8_blind I L a1) = some v) : Ct x_X8_blind 6 [.ref 0, .int a1] ly0 I L R0 0 0 (some (.int (p1 v)), ly0, (p2 v), L, R0) :=
  Ct_of_V mo_X8_blind.1 (Nat.le_of_ble_eq_true rfl) (V_X8_blind (P := fun x => x = v)  (fun _ e => by rw [e]) (by rw [h]; exact rfl))
def F_X8_slanted_9 (I : WI) (L : WL) (a1 : Int32) : Option (Int32 × WI × WL) :=
  some ((-1), I, L)
theorem V_X8_slanted_9  {I : WI} {L : WL} {a1 : Int32}  {P : (Int32 × WI × WL) → Prop} {t : Tg} (hr : ∀ v, P v → t = (some (.int (p1 v)), ly0, (p1 (p2 v)), (p2 (p2 v)), R0)) : oP P (F_X8_slanted_9 I L a1) → V (zM x_X8_slanted 6 0 0 t) 9 [(0, .ref 0), (1, .int a1)] [] ly0 I L R0 0 0 :=
  fun _ =>
  have kq : (oP P (F_X8_slanted_9 I L a1)) ∧ True := ⟨by assumption, trivial⟩
  V_iconst (tat ok_X8_slanted_0 (i := 5) (q := 10) rfl rfl) ic_m1 <|
    V_iret (tat ok_X8_slanted_0 (i := 6) (q := 11) rfl rfl) _ rfl (nar_int _) (hr ((-1), I, L) (jq (P := oP P) kq rfl)) ⟨(Nat.le_of_ble_eq_true rfl), (Nat.le_of_ble_eq_true rfl)⟩
def F_X8_slanted_41 (I : WI) (L : WL) (a1 : Int32) : Option (Int32 × WI × WL) :=
  some ((-2), I, L)
theorem V_X8_slanted_41  {I : WI} {L : WL} {a1 : Int32}  {P : (Int32 × WI × WL) → Prop} {t : Tg} (hr : ∀ v, P v → t = (some (.int (p1 v)), ly0, (p1 (p2 v)), (p2 (p2 v)), R0)) : oP P (F_X8_slanted_41 I L a1) → V (zM x_X8_slanted 6 0 0 t) 41 [(0, .ref 0), (1, .int a1)] [] ly0 I L R0 0 0 :=
  fun _ =>
  have kq : (oP P (F_X8_slanted_41 I L a1)) ∧ True := ⟨by assumption, trivial⟩
  V_bipush (tat ok_X8_slanted_0 (i := 20) (q := 43) rfl rfl) bp_m2 <|
    V_iret (tat ok_X8_slanted_0 (i := 21) (q := 44) rfl rfl) _ rfl (nar_int _) (hr ((-2), I, L) (jq (P := oP P) kq rfl)) ⟨(Nat.le_of_ble_eq_true rfl), (Nat.le_of_ble_eq_true rfl)⟩
def F_X8_slanted_97 (I : WI) (L : WL) (a1 : Int32) (s0 : Int32) : Option (Int32 × WI × WL) :=
  some (s0, I, L)
theorem V_X8_slanted_97  {I : WI} {L : WL} {a1 : Int32} {s0 : Int32} {P : (Int32 × WI × WL) → Prop} {t : Tg} (hr : ∀ v, P v → t = (some (.int (p1 v)), ly0, (p1 (p2 v)), (p2 (p2 v)), R0)) : oP P (F_X8_slanted_97 I L a1 s0) → V (zM x_X8_slanted 6 0 0 t) 97 [(0, .ref 0), (1, .int a1)] [.int s0] ly0 I L R0 0 0 :=
  fun _ =>
  have kq : (oP P (F_X8_slanted_97 I L a1 s0)) ∧ True := ⟨by assumption, trivial⟩
  V_iret (tat ok_X8_slanted_1 (i := 6) (q := 98) rfl rfl) _ rfl (nar_int _) (hr (s0, I, L) (jq (P := oP P) kq rfl)) ⟨(Nat.le_of_ble_eq_true rfl), (Nat.le_of_ble_eq_true rfl)⟩
def F_X8_slanted (I : WI) (L : WL) (a1 : Int32) : Option (Int32 × WI × WL) :=
  (if a1 < 0 then (F_X8_slanted_9 I L a1) else (if a1 ≤ 3 then (if (bz (I 2 0)) = 0 then (F_X8_slanted_41 I L a1) else (if ((I 1 1) + (I 1 2)) ≤ 10 then (Option.bind (F_X7_findSlanted I L 1 ((L 1 3) ^^^ (L 2 3))) (fun v5 => (if (bz ((p1 v5) 27 0)) = 0 then (F_X8_slanted_97 (p1 v5) (p2 v5) a1 (-4)) else (F_X8_slanted_97 (p1 v5) (p2 v5) a1 (F_X8_toldOf (p1 v5) a1 (F_X7_acts (p1 v5))))))) else (F_X8_slanted_41 I L a1))) else (F_X8_slanted_9 I L a1)))
theorem V_X8_slanted  {I : WI} {L : WL} {a1 : Int32}  {P : (Int32 × WI × WL) → Prop} {t : Tg} (hr : ∀ v, P v → t = (some (.int (p1 v)), ly0, (p1 (p2 v)), (p2 (p2 v)), R0)) : oP P (F_X8_slanted I L a1) → V (zM x_X8_slanted 6 0 0 t) 0 [(0, .ref 0), (1, .int a1)] [] ly0 I L R0 0 0 :=
  fun _ =>
  have kq : (oP P (F_X8_slanted I L a1)) ∧ True := ⟨by assumption, trivial⟩
  V_iload_n (tat ok_X8_slanted_0 (i := 0) (q := 1) rfl rfl) 1 rfl rfl <|
    V_if_lt (tat ok_X8_slanted_0 (i := 1) (q := 4) rfl rfl) rfl (fun c1 => V_X8_slanted_9  hr (jq (P := oP P) kq (if_pos c1))) (fun c1 => V_iload_n (tat ok_X8_slanted_0 (i := 2) (q := 5) rfl rfl) 1 rfl rfl <|
    V_iconst (tat ok_X8_slanted_0 (i := 3) (q := 6) rfl rfl) ic_3 <|
    V_icmp_le (tat ok_X8_slanted_0 (i := 4) (q := 9) rfl rfl) rfl (fun c2 => V_aload_n (tat ok_X8_slanted_0 (i := 7) (q := 12) rfl rfl) 0 rfl rfl <|
    V_getR (tat ok_X8_slanted_0 (i := 8) (q := 15) rfl rfl) fk_X8_18 rfl rfl <|
    V_getZ (tat ok_X8_slanted_0 (i := 9) (q := 18) rfl rfl) fk_X8_106 rfl <|
    V_if_eq (tat ok_X8_slanted_0 (i := 10) (q := 21) rfl rfl) rfl (fun c3 => V_X8_slanted_41  hr (jq (P := oP P) kq (Eq.trans (if_neg c1) (Eq.trans (if_pos c2) (if_pos c3))))) (fun c3 => V_aload_n (tat ok_X8_slanted_0 (i := 11) (q := 22) rfl rfl) 0 rfl rfl <|
    V_getR (tat ok_X8_slanted_0 (i := 12) (q := 25) rfl rfl) fk_X8_14 rfl rfl <|
    V_getI (tat ok_X8_slanted_0 (i := 13) (q := 28) rfl rfl) fk_X8_117 rfl <|
    V_aload_n (tat ok_X8_slanted_0 (i := 14) (q := 29) rfl rfl) 0 rfl rfl <|
    V_getR (tat ok_X8_slanted_0 (i := 15) (q := 32) rfl rfl) fk_X8_14 rfl rfl <|
    V_getI (tat ok_X8_slanted_0 (i := 16) (q := 35) rfl rfl) fk_X8_120 rfl <|
    V_iadd (tat ok_X8_slanted_0 (i := 17) (q := 36) rfl rfl) <|
    V_bipush (tat ok_X8_slanted_0 (i := 18) (q := 38) rfl rfl) bp_10 <|
    V_icmp_le (tat ok_X8_slanted_0 (i := 19) (q := 41) rfl rfl) rfl (fun c4 => V_aload_n (tat ok_X8_slanted_0 (i := 22) (q := 45) rfl rfl) 0 rfl rfl <|
    V_getR (tat ok_X8_slanted_0 (i := 23) (q := 48) rfl rfl) fk_X8_63 rfl rfl <|
    V_aload_n (tat ok_X8_slanted_0 (i := 24) (q := 49) rfl rfl) 0 rfl rfl <|
    V_getR (tat ok_X8_slanted_0 (i := 25) (q := 52) rfl rfl) fk_X8_14 rfl rfl <|
    V_aload_n (tat ok_X8_slanted_0 (i := 26) (q := 53) rfl rfl) 0 rfl rfl <|
    V_getR (tat ok_X8_slanted_0 (i := 27) (q := 56) rfl rfl) fk_X8_14 rfl rfl <|
    V_getL (tat ok_X8_slanted_0 (i := 28) (q := 59) rfl rfl) fk_X8_137 rfl <|
    V_aload_n (tat ok_X8_slanted_0 (i := 29) (q := 60) rfl rfl) 0 rfl rfl <|
    V_getR (tat ok_X8_slanted_0 (i := 30) (q := 63) rfl rfl) fk_X8_18 rfl rfl <|
    V_getL (tat ok_X8_slanted_0 (i := 31) (q := 66) rfl rfl) fk_X8_137 rfl <|
    V_lxor (tat ok_X8_slanted_0 (i := 32) (q := 67) rfl rfl) <|
    oP_case (jq (P := oP P) kq (Eq.trans (if_neg c1) (Eq.trans (if_pos c2) (Eq.trans (if_neg c3) (if_pos c4))))) (fun v5 e5 _ => V_cv2v (ct_X7_findSlanted I L 1 ((L 1 3) ^^^ (L 2 3)) rfl e5) mo_X7_findSlanted (tat ok_X8_slanted_0 (i := 33) (q := 70) rfl rfl) ml_X8_231 rfl ⟨by decide, _, rfl, rfl⟩ ⟨(Nat.le_of_ble_eq_true rfl), (Nat.le_of_ble_eq_true rfl)⟩ ⟨(Nat.le_of_ble_eq_true rfl), (Nat.le_of_ble_eq_true rfl)⟩ (Nat.le_of_ble_eq_true rfl) <|
    V_aload_n (tat ok_X8_slanted_0 (i := 34) (q := 71) rfl rfl) 0 rfl rfl <|
    V_getR (tat ok_X8_slanted_0 (i := 35) (q := 74) rfl rfl) fk_X8_63 rfl rfl <|
    V_getZ (tat ok_X8_slanted_0 (i := 36) (q := 77) rfl rfl) fk_X8_195 rfl <|
    V_if_eq (tat ok_X8_slanted_0 (i := 37) (q := 80) rfl rfl) rfl (fun c6 => V_bipush (tat ok_X8_slanted_1 (i := 5) (q := 97) rfl rfl) bp_m4 <|
    V_X8_slanted_97  hr (jq (P := oP P) kq (Eq.trans (if_neg c1) (Eq.trans (if_pos c2) (Eq.trans (if_neg c3) (Eq.trans (if_pos c4) (Eq.trans (ob e5) (if_pos c6)))))))) (fun c6 => V_aload_n (tat ok_X8_slanted_0 (i := 38) (q := 81) rfl rfl) 0 rfl rfl <|
    V_iload_n (tat ok_X8_slanted_0 (i := 39) (q := 82) rfl rfl) 1 rfl rfl <|
    V_aload_n (tat ok_X8_slanted_1 (i := 0) (q := 83) rfl rfl) 0 rfl rfl <|
    V_getR (tat ok_X8_slanted_1 (i := 1) (q := 86) rfl rfl) fk_X8_63 rfl rfl <|
    V_cv0 (ct_X7_acts (p1 v5) (p2 v5)  ) mo_X7_acts (tat ok_X8_slanted_1 (i := 2) (q := 89) rfl rfl) ml_X8_214 rfl ⟨by decide, _, rfl, rfl⟩ ⟨(Nat.le_of_ble_eq_true rfl), (Nat.le_of_ble_eq_true rfl)⟩ ⟨(Nat.le_of_ble_eq_true rfl), (Nat.le_of_ble_eq_true rfl)⟩ (Nat.le_of_ble_eq_true rfl) <|
    V_cv2 (ct_X8_toldOf (p1 v5) (p2 v5) a1 (F_X7_acts (p1 v5)) ) mo_X8_toldOf (tat ok_X8_slanted_1 (i := 3) (q := 92) rfl rfl) ml_X8_217 rfl ⟨by decide, _, rfl, rfl⟩ ⟨(Nat.le_of_ble_eq_true rfl), (Nat.le_of_ble_eq_true rfl)⟩ ⟨(Nat.le_of_ble_eq_true rfl), (Nat.le_of_ble_eq_true rfl)⟩ (Nat.le_of_ble_eq_true rfl) <|
    V_goto (tat ok_X8_slanted_1 (i := 4) (q := 95) rfl rfl) rfl <|
    V_X8_slanted_97  hr (jq (P := oP P) kq (Eq.trans (if_neg c1) (Eq.trans (if_pos c2) (Eq.trans (if_neg c3) (Eq.trans (if_pos c4) (Eq.trans (ob e5) (if_neg c6)))))))))) (fun c4 => V_X8_slanted_41  hr (jq (P := oP P) kq (Eq.trans (if_neg c1) (Eq.trans (if_pos c2) (Eq.trans (if_neg c3) (if_neg c4)))))))) (fun c2 => V_X8_slanted_9  hr (jq (P := oP P) kq (Eq.trans (if_neg c1) (if_neg c2)))))
theorem ct_X8_slanted  (I : WI) (L : WL) (a1 : Int32)  {v : (Int32 × WI × WL)} (h : (F_X8_slanted I L a1) = some v) : Ct x_X8_slanted 6 [.ref 0, .int a1] ly0 I L R0 0 0 (some (.int (p1 v)), ly0, (p1 (p2 v)), (p2 (p2 v)), R0) :=
  Ct_of_V mo_X8_slanted.1 (Nat.le_of_ble_eq_true rfl) (V_X8_slanted (P := fun x => x = v)  (fun _ e => by rw [e]) (by rw [h]; exact rfl))
def F_X8_independentLines_97_3 (I : WI) (L : WL) (a1 : Int32) (a3 : Int32) (a4 : Int32) (a2 : Int32) (a7 : Int32) (s0 : Int64) (s1 : Int64) : Option (Int64 ⊕ (Int64 × Int32)) :=
  some (.inr ((s1 ^^^ s0), (a7 + 1)))
theorem V_X8_independentLines_97_3  {I : WI} {L : WL} {a1 : Int32} {a3 : Int32} {a4 : Int32} {a2 : Int32} {a7 : Int32} {s0 : Int64} {s1 : Int64} {P : (Int64 ⊕ (Int64 × Int32)) → Prop} {t : Tg} (he : ∀ x : Int64, P (.inl x) → V (zM x_X8_independentLines 4 0 0 t) 106 [(0, .ref 0), (1, .int a1), (2, .int a2), (3, .int a3), (4, .int a4), (5, .long x)] [] ly0 I L R0 0 0) (hk : ∀ x : (Int64 × Int32), P (.inr x) → V (zM x_X8_independentLines 4 0 0 t) 40 [(0, .ref 0), (1, .int a1), (2, .int a2), (3, .int a3), (4, .int a4), (5, .long (p1 x)), (7, .int (p2 x))] [] ly0 I L R0 0 0) : oP P (F_X8_independentLines_97_3 I L a1 a3 a4 a2 a7 s0 s1) → V (zM x_X8_independentLines 4 0 0 t) 97 [(0, .ref 0), (1, .int a1), (2, .int a2), (3, .int a3), (4, .int a4), (7, .int a7)] [.long s0, .long s1] ly0 I L R0 0 0 :=
  fun _ =>
  have kq : (oP P (F_X8_independentLines_97_3 I L a1 a3 a4 a2 a7 s0 s1)) ∧ True := ⟨by assumption, trivial⟩
  V_lxor (tat ok_X8_independentLines_1 (i := 15) (q := 98) rfl rfl) <|
    V_lstore (lv' := [(5, .long (s1 ^^^ s0)), (0, .ref 0), (1, .int a1), (2, .int a2), (3, .int a3), (4, .int a4), (7, .int a7)]) (tat ok_X8_independentLines_1 (i := 16) (q := 100) rfl rfl) (Nat.le_of_ble_eq_true rfl) rfl <|
    V_iinc (v := (a7 + 1)) (lv' := [(7, .int (a7 + 1)), (5, .long (s1 ^^^ s0)), (0, .ref 0), (1, .int a1), (2, .int a2), (3, .int a3), (4, .int a4)]) (tat ok_X8_independentLines_1 (i := 17) (q := 103) rfl rfl) 6 rfl (ia ic_1) (Nat.le_of_ble_eq_true rfl) rfl <|
    V_goto (tat ok_X8_independentLines_1 (i := 18) (q := 106) rfl rfl) rfl <|
    V_pick [2, 3, 4, 5, 6, 1, 0] rfl (hk ((s1 ^^^ s0), (a7 + 1)) (jq (P := oP P) kq rfl))
def F_X8_independentLines_40_3 (I : WI) (L : WL) (a1 : Int32) (a3 : Int32) (a4 : Int32) (a2 : Int32) (a5 : Int64) (a7 : Int32) : Option (Int64 ⊕ (Int64 × Int32)) :=
  (if a2 ≤ a7 then some (.inl a5) else (if 31 ≤ a7 then some (.inl a5) else (if a7 < 0 ∨ 31 ≤ Int32.toNatClampNeg a7 then none else (if a7 < 0 ∨ 31 ≤ Int32.toNatClampNeg a7 then none else (if (lg_cmp (a5 &&& ((L 32 (Int32.toNatClampNeg a7)) &&& (-(L 32 (Int32.toNatClampNeg a7))))) 0) = 0 then (F_X8_independentLines_97_3 I L a1 a3 a4 a2 a7 0 a5) else (if a7 < 0 ∨ 31 ≤ Int32.toNatClampNeg a7 then none else (F_X8_independentLines_97_3 I L a1 a3 a4 a2 a7 (L 32 (Int32.toNatClampNeg a7)) a5)))))))
theorem V_X8_independentLines_40_3  {I : WI} {L : WL} {a1 : Int32} {a3 : Int32} {a4 : Int32} {a2 : Int32} {a5 : Int64} {a7 : Int32} {P : (Int64 ⊕ (Int64 × Int32)) → Prop} {t : Tg} (he : ∀ x : Int64, P (.inl x) → V (zM x_X8_independentLines 4 0 0 t) 106 [(0, .ref 0), (1, .int a1), (2, .int a2), (3, .int a3), (4, .int a4), (5, .long x)] [] ly0 I L R0 0 0) (hk : ∀ x : (Int64 × Int32), P (.inr x) → V (zM x_X8_independentLines 4 0 0 t) 40 [(0, .ref 0), (1, .int a1), (2, .int a2), (3, .int a3), (4, .int a4), (5, .long (p1 x)), (7, .int (p2 x))] [] ly0 I L R0 0 0) : oP P (F_X8_independentLines_40_3 I L a1 a3 a4 a2 a5 a7) → V (zM x_X8_independentLines 4 0 0 t) 40 [(0, .ref 0), (1, .int a1), (2, .int a2), (3, .int a3), (4, .int a4), (5, .long a5), (7, .int a7)] [] ly0 I L R0 0 0 :=
  fun _ =>
  have kq : (oP P (F_X8_independentLines_40_3 I L a1 a3 a4 a2 a5 a7)) ∧ True := ⟨by assumption, trivial⟩
  V_iload (tat ok_X8_independentLines_0 (i := 23) (q := 42) rfl rfl) 6 rfl <|
    V_iload_n (tat ok_X8_independentLines_0 (i := 24) (q := 43) rfl rfl) 2 rfl rfl <|
    V_icmp_ge (tat ok_X8_independentLines_0 (i := 25) (q := 46) rfl rfl) rfl (fun c2 => V_pick [0, 1, 2, 3, 4, 5] rfl (he a5 (jq (P := oP P) kq (if_pos c2)))) (fun c2 => V_iload (tat ok_X8_independentLines_0 (i := 26) (q := 48) rfl rfl) 6 rfl <|
    V_aload_n (tat ok_X8_independentLines_0 (i := 27) (q := 49) rfl rfl) 0 rfl rfl <|
    V_getR (tat ok_X8_independentLines_0 (i := 28) (q := 52) rfl rfl) fk_X8_77 rfl rfl <|
    V_alen (tat ok_X8_independentLines_0 (i := 29) (q := 53) rfl rfl) rfl ⟨by decide, by decide⟩ nl_31 <|
    V_icmp_ge (tat ok_X8_independentLines_0 (i := 30) (q := 56) rfl rfl) rfl (fun c3 => V_pick [0, 1, 2, 3, 4, 5] rfl (he a5 (jq (P := oP P) kq (Eq.trans (if_neg c2) (if_pos c3))))) (fun c3 => V_aload_n (tat ok_X8_independentLines_0 (i := 31) (q := 57) rfl rfl) 0 rfl rfl <|
    V_getR (tat ok_X8_independentLines_0 (i := 32) (q := 60) rfl rfl) fk_X8_77 rfl rfl <|
    V_iload (tat ok_X8_independentLines_0 (i := 33) (q := 62) rfl rfl) 6 rfl <|
    (if c4 : a7 < 0 ∨ 31 ≤ Int32.toNatClampNeg a7 then ((jq (P := oP P) kq (Eq.trans (if_neg c2) (Eq.trans (if_neg c3) (if_pos c4))))).elim else V_lald (tat ok_X8_independentLines_0 (i := 34) (q := 63) rfl rfl) rfl c4 <|
    V_aload_n (tat ok_X8_independentLines_0 (i := 35) (q := 64) rfl rfl) 0 rfl rfl <|
    V_getR (tat ok_X8_independentLines_0 (i := 36) (q := 67) rfl rfl) fk_X8_77 rfl rfl <|
    V_iload (tat ok_X8_independentLines_0 (i := 37) (q := 69) rfl rfl) 6 rfl <|
    (if c5 : a7 < 0 ∨ 31 ≤ Int32.toNatClampNeg a7 then ((jq (P := oP P) kq (Eq.trans (if_neg c2) (Eq.trans (if_neg c3) (Eq.trans (if_neg c4) (if_pos c5)))))).elim else V_lald (tat ok_X8_independentLines_0 (i := 38) (q := 70) rfl rfl) rfl c5 <|
    V_lneg (tat ok_X8_independentLines_0 (i := 39) (q := 71) rfl rfl) <|
    V_land (tat ok_X8_independentLines_1 (i := 0) (q := 72) rfl rfl) <|
    V_lstore (lv' := [(8, .long ((L 32 (Int32.toNatClampNeg a7)) &&& (-(L 32 (Int32.toNatClampNeg a7))))), (0, .ref 0), (1, .int a1), (2, .int a2), (3, .int a3), (4, .int a4), (5, .long a5), (7, .int a7)]) (tat ok_X8_independentLines_1 (i := 1) (q := 74) rfl rfl) (Nat.le_of_ble_eq_true rfl) rfl <|
    V_lload (tat ok_X8_independentLines_1 (i := 2) (q := 76) rfl rfl) 6 rfl <|
    V_lload (tat ok_X8_independentLines_1 (i := 3) (q := 78) rfl rfl) 6 rfl <|
    V_lload (tat ok_X8_independentLines_1 (i := 4) (q := 80) rfl rfl) 0 rfl <|
    V_land (tat ok_X8_independentLines_1 (i := 5) (q := 81) rfl rfl) <|
    V_lconst (v := 0) (tat ok_X8_independentLines_1 (i := 6) (q := 82) rfl rfl) rfl <|
    V_lcmp (tat ok_X8_independentLines_1 (i := 7) (q := 83) rfl rfl) <|
    V_if_eq (tat ok_X8_independentLines_1 (i := 8) (q := 86) rfl rfl) rfl (fun c6 => V_lconst (v := 0) (tat ok_X8_independentLines_1 (i := 14) (q := 97) rfl rfl) rfl <|
    V_pick [1, 2, 3, 4, 5, 7] rfl (V_X8_independentLines_97_3  he hk (jq (P := oP P) kq (Eq.trans (if_neg c2) (Eq.trans (if_neg c3) (Eq.trans (if_neg c4) (Eq.trans (if_neg c5) (if_pos c6)))))))) (fun c6 => V_aload_n (tat ok_X8_independentLines_1 (i := 9) (q := 87) rfl rfl) 1 rfl rfl <|
    V_getR (tat ok_X8_independentLines_1 (i := 10) (q := 90) rfl rfl) fk_X8_77 rfl rfl <|
    V_iload (tat ok_X8_independentLines_1 (i := 11) (q := 92) rfl rfl) 7 rfl <|
    (if c7 : a7 < 0 ∨ 31 ≤ Int32.toNatClampNeg a7 then ((jq (P := oP P) kq (Eq.trans (if_neg c2) (Eq.trans (if_neg c3) (Eq.trans (if_neg c4) (Eq.trans (if_neg c5) (Eq.trans (if_neg c6) (if_pos c7)))))))).elim else V_lald (tat ok_X8_independentLines_1 (i := 12) (q := 93) rfl rfl) rfl c7 <|
    V_goto (tat ok_X8_independentLines_1 (i := 13) (q := 96) rfl rfl) rfl <|
    V_pick [1, 2, 3, 4, 5, 7] rfl (V_X8_independentLines_97_3  he hk (jq (P := oP P) kq (Eq.trans (if_neg c2) (Eq.trans (if_neg c3) (Eq.trans (if_neg c4) (Eq.trans (if_neg c5) (Eq.trans (if_neg c6) (if_neg c7))))))))))))))
def F_X8_independentLines_133_2 (I : WI) (L : WL) (a1 : Int32) (a3 : Int32) (a4 : Int32) (a2 : Int32) : Option (Int32 × WL) :=
  some (a2, L)
theorem V_X8_independentLines_133_2  {I : WI} {L : WL} {a1 : Int32} {a3 : Int32} {a4 : Int32} {a2 : Int32} {P : (Int32 × WL) → Prop} {t : Tg} (hk : ∀ x : (Int32 × WL), P x → V (zM x_X8_independentLines 4 0 0 t) 12 [(0, .ref 0), (1, .int a1), (2, .int (p1 x)), (3, .int a3), (4, .int (a4 + 1))] [] ly0 I (p2 x) R0 0 0) : oP P (F_X8_independentLines_133_2 I L a1 a3 a4 a2) → V (zM x_X8_independentLines 4 0 0 t) 133 [(0, .ref 0), (1, .int a1), (2, .int a2), (3, .int a3), (4, .int a4)] [] ly0 I L R0 0 0 :=
  fun _ =>
  have kq : (oP P (F_X8_independentLines_133_2 I L a1 a3 a4 a2)) ∧ True := ⟨by assumption, trivial⟩
  V_iinc (v := (a4 + 1)) (lv' := [(4, .int (a4 + 1)), (0, .ref 0), (1, .int a1), (2, .int a2), (3, .int a3)]) (tat ok_X8_independentLines_1 (i := 34) (q := 136) rfl rfl) 4 rfl (ia ic_1) (Nat.le_of_ble_eq_true rfl) rfl <|
    V_goto (tat ok_X8_independentLines_1 (i := 35) (q := 139) rfl rfl) rfl <|
    V_pick [1, 2, 3, 4, 0] rfl (hk (a2, L) (jq (P := oP P) kq rfl))
def F_X8_independentLines_106_2 (I : WI) (L : WL) (a1 : Int32) (a3 : Int32) (a4 : Int32) (a2 : Int32) (a5 : Int64) : Option (Int32 × WL) :=
  (if (lg_cmp a5 0) = 0 then (F_X8_independentLines_133_2 I L a1 a3 a4 a2) else (if 31 ≤ a2 then (F_X8_independentLines_133_2 I L a1 a3 a4 a2) else (if a2 < 0 ∨ 31 ≤ Int32.toNatClampNeg a2 then none else (F_X8_independentLines_133_2 I (u2 L 32 (Int32.toNatClampNeg a2) a5) a1 a3 a4 (a2 + 1)))))
theorem V_X8_independentLines_106_2  {I : WI} {L : WL} {a1 : Int32} {a3 : Int32} {a4 : Int32} {a2 : Int32} {a5 : Int64} {P : (Int32 × WL) → Prop} {t : Tg} (hk : ∀ x : (Int32 × WL), P x → V (zM x_X8_independentLines 4 0 0 t) 12 [(0, .ref 0), (1, .int a1), (2, .int (p1 x)), (3, .int a3), (4, .int (a4 + 1))] [] ly0 I (p2 x) R0 0 0) : oP P (F_X8_independentLines_106_2 I L a1 a3 a4 a2 a5) → V (zM x_X8_independentLines 4 0 0 t) 106 [(0, .ref 0), (1, .int a1), (2, .int a2), (3, .int a3), (4, .int a4), (5, .long a5)] [] ly0 I L R0 0 0 :=
  fun _ =>
  have kq : (oP P (F_X8_independentLines_106_2 I L a1 a3 a4 a2 a5)) ∧ True := ⟨by assumption, trivial⟩
  V_lload (tat ok_X8_independentLines_1 (i := 19) (q := 108) rfl rfl) 5 rfl <|
    V_lconst (v := 0) (tat ok_X8_independentLines_1 (i := 20) (q := 109) rfl rfl) rfl <|
    V_lcmp (tat ok_X8_independentLines_1 (i := 21) (q := 110) rfl rfl) <|
    V_if_eq (tat ok_X8_independentLines_1 (i := 22) (q := 113) rfl rfl) rfl (fun c8 => V_pick [0, 1, 2, 3, 4] rfl (V_X8_independentLines_133_2  hk (jq (P := oP P) kq (if_pos c8)))) (fun c8 => V_iload_n (tat ok_X8_independentLines_1 (i := 23) (q := 114) rfl rfl) 2 rfl rfl <|
    V_aload_n (tat ok_X8_independentLines_1 (i := 24) (q := 115) rfl rfl) 0 rfl rfl <|
    V_getR (tat ok_X8_independentLines_1 (i := 25) (q := 118) rfl rfl) fk_X8_77 rfl rfl <|
    V_alen (tat ok_X8_independentLines_1 (i := 26) (q := 119) rfl rfl) rfl ⟨by decide, by decide⟩ nl_31 <|
    V_icmp_ge (tat ok_X8_independentLines_1 (i := 27) (q := 122) rfl rfl) rfl (fun c9 => V_pick [0, 1, 2, 3, 4] rfl (V_X8_independentLines_133_2  hk (jq (P := oP P) kq (Eq.trans (if_neg c8) (if_pos c9))))) (fun c9 => V_aload_n (tat ok_X8_independentLines_1 (i := 28) (q := 123) rfl rfl) 0 rfl rfl <|
    V_getR (tat ok_X8_independentLines_1 (i := 29) (q := 126) rfl rfl) fk_X8_77 rfl rfl <|
    V_iload_n (tat ok_X8_independentLines_1 (i := 30) (q := 127) rfl rfl) 2 rfl rfl <|
    V_lload (tat ok_X8_independentLines_1 (i := 31) (q := 129) rfl rfl) 5 rfl <|
    (if c10 : a2 < 0 ∨ 31 ≤ Int32.toNatClampNeg a2 then ((jq (P := oP P) kq (Eq.trans (if_neg c8) (Eq.trans (if_neg c9) (if_pos c10))))).elim else V_last (tat ok_X8_independentLines_1 (i := 32) (q := 130) rfl rfl) rfl c10 <|
    V_iinc (v := (a2 + 1)) (lv' := [(2, .int (a2 + 1)), (0, .ref 0), (1, .int a1), (3, .int a3), (4, .int a4), (5, .long a5)]) (tat ok_X8_independentLines_1 (i := 33) (q := 133) rfl rfl) 2 rfl (ia ic_1) (Nat.le_of_ble_eq_true rfl) rfl <|
    V_pick [1, 2, 0, 3, 4] rfl (V_X8_independentLines_133_2  hk (jq (P := oP P) kq (Eq.trans (if_neg c8) (Eq.trans (if_neg c9) (if_neg c10))))))))
def F_X8_independentLines_40_2 (I : WI) (L : WL) (a1 : Int32) (a3 : Int32) (a4 : Int32) (a2 : Int32) (a5 : Int64) (a7 : Int32) : Option (Int32 × WL) :=
  (lpp (fun x => (F_X8_independentLines_40_3 I L a1 a3 a4 a2 (p1 x) (p2 x))) 4294967296 (a5, a7)).bind (fun q => (F_X8_independentLines_106_2 I L a1 a3 a4 a2 q))
theorem V_X8_independentLines_40_2  {I : WI} {L : WL} {a1 : Int32} {a3 : Int32} {a4 : Int32} {a2 : Int32} {a5 : Int64} {a7 : Int32} {P : (Int32 × WL) → Prop} {t : Tg} (hb7 : bz a7 = a7) (hk : ∀ x : (Int32 × WL), P x → V (zM x_X8_independentLines 4 0 0 t) 12 [(0, .ref 0), (1, .int a1), (2, .int (p1 x)), (3, .int a3), (4, .int (a4 + 1))] [] ly0 I (p2 x) R0 0 0) (kk : oP P (F_X8_independentLines_40_2 I L a1 a3 a4 a2 a5 a7)) : V (zM x_X8_independentLines 4 0 0 t) 40 [(0, .ref 0), (1, .int a1), (2, .int a2), (3, .int a3), (4, .int a4), (5, .long a5), (7, .int a7)] [] ly0 I L R0 0 0 :=
  V_lpp (fun x => (F_X8_independentLines_40_3 I L a1 a3 a4 a2 (p1 x) (p2 x))) (fun x => V (zM x_X8_independentLines 4 0 0 t) 40 [(0, .ref 0), (1, .int a1), (2, .int a2), (3, .int a3), (4, .int a4), (5, .long (p1 x)), (7, .int (p2 x))] [] ly0 I L R0 0 0) (fun x => oP P ((F_X8_independentLines_106_2 I L a1 a3 a4 a2 x))) (s := (a5, a7)) (fun x e0 => V_X8_independentLines_40_3 (P := Sum.elim (fun x => oP P ((F_X8_independentLines_106_2 I L a1 a3 a4 a2 x))) (fun x => V (zM x_X8_independentLines 4 0 0 t) 40 [(0, .ref 0), (1, .int a1), (2, .int a2), (3, .int a3), (4, .int a4), (5, .long (p1 x)), (7, .int (p2 x))] [] ly0 I L R0 0 0))  (fun x e => V_X8_independentLines_106_2  hk e) (fun _ e => e) e0) (oP_bind (f := fun q => _) kk)
def F_X8_independentLines_25_2 (I : WI) (L : WL) (a1 : Int32) (a3 : Int32) (a4 : Int32) (a2 : Int32) : Option (Int32 × WL) :=
  (F_X8_independentLines_40_2 I L a1 a3 a4 a2 (F_X0_squaresOf I 1 a3 a4) 0)
theorem V_X8_independentLines_25_2  {I : WI} {L : WL} {a1 : Int32} {a3 : Int32} {a4 : Int32} {a2 : Int32} {P : (Int32 × WL) → Prop} {t : Tg} (hk : ∀ x : (Int32 × WL), P x → V (zM x_X8_independentLines 4 0 0 t) 12 [(0, .ref 0), (1, .int a1), (2, .int (p1 x)), (3, .int a3), (4, .int (a4 + 1))] [] ly0 I (p2 x) R0 0 0) : oP P (F_X8_independentLines_25_2 I L a1 a3 a4 a2) → V (zM x_X8_independentLines 4 0 0 t) 25 [(0, .ref 0), (1, .int a1), (2, .int a2), (3, .int a3), (4, .int a4)] [] ly0 I L R0 0 0 :=
  fun _ =>
  have kq : (oP P (F_X8_independentLines_25_2 I L a1 a3 a4 a2)) ∧ True := ⟨by assumption, trivial⟩
  V_aload_n (tat ok_X8_independentLines_0 (i := 15) (q := 26) rfl rfl) 0 rfl rfl <|
    V_getR (tat ok_X8_independentLines_0 (i := 16) (q := 29) rfl rfl) fk_X8_14 rfl rfl <|
    V_iload_n (tat ok_X8_independentLines_0 (i := 17) (q := 30) rfl rfl) 3 rfl rfl <|
    V_iload (tat ok_X8_independentLines_0 (i := 18) (q := 32) rfl rfl) 4 rfl <|
    V_cv2 (ct_X0_squaresOf I L 1 a3 a4 rfl) mo_X0_squaresOf (tat ok_X8_independentLines_0 (i := 19) (q := 35) rfl rfl) ml_X8_155 rfl ⟨by decide, _, rfl, rfl⟩ ⟨(Nat.le_of_ble_eq_true rfl), (Nat.le_of_ble_eq_true rfl)⟩ ⟨(Nat.le_of_ble_eq_true rfl), (Nat.le_of_ble_eq_true rfl)⟩ (Nat.le_of_ble_eq_true rfl) <|
    V_lstore (lv' := [(5, .long (F_X0_squaresOf I 1 a3 a4)), (0, .ref 0), (1, .int a1), (2, .int a2), (3, .int a3), (4, .int a4)]) (tat ok_X8_independentLines_0 (i := 20) (q := 37) rfl rfl) (Nat.le_of_ble_eq_true rfl) rfl <|
    V_iconst (tat ok_X8_independentLines_0 (i := 21) (q := 38) rfl rfl) ic_0 <|
    V_istore (lv' := [(7, .int 0), (5, .long (F_X0_squaresOf I 1 a3 a4)), (0, .ref 0), (1, .int a1), (2, .int a2), (3, .int a3), (4, .int a4)]) (tat ok_X8_independentLines_0 (i := 22) (q := 40) rfl rfl) (Nat.le_of_ble_eq_true rfl) rfl <|
    V_pick [2, 3, 4, 5, 6, 1, 0] rfl (V_X8_independentLines_40_2 rfl hk (jq (P := oP P) kq rfl))
def F_X8_independentLines_139_1 (I : WI) (L : WL) (a1 : Int32) (a2 : Int32) (a3 : Int32) : Option ((Int32 × WL) ⊕ (Int32 × Int32 × WL)) :=
  some (.inr (a2, (a3 + 1), L))
theorem V_X8_independentLines_139_1  {I : WI} {L : WL} {a1 : Int32} {a2 : Int32} {a3 : Int32} {P : ((Int32 × WL) ⊕ (Int32 × Int32 × WL)) → Prop} {t : Tg} (he : ∀ x : (Int32 × WL), P (.inl x) → V (zM x_X8_independentLines 4 0 0 t) 145 [(0, .ref 0), (1, .int a1), (2, .int (p1 x))] [] ly0 I (p2 x) R0 0 0) (hk : ∀ x : (Int32 × Int32 × WL), P (.inr x) → V (zM x_X8_independentLines 4 0 0 t) 4 [(0, .ref 0), (1, .int a1), (2, .int (p1 x)), (3, .int (p1 (p2 x)))] [] ly0 I (p2 (p2 x)) R0 0 0) : oP P (F_X8_independentLines_139_1 I L a1 a2 a3) → V (zM x_X8_independentLines 4 0 0 t) 139 [(0, .ref 0), (1, .int a1), (2, .int a2), (3, .int a3)] [] ly0 I L R0 0 0 :=
  fun _ =>
  have kq : (oP P (F_X8_independentLines_139_1 I L a1 a2 a3)) ∧ True := ⟨by assumption, trivial⟩
  V_iinc (v := (a3 + 1)) (lv' := [(3, .int (a3 + 1)), (0, .ref 0), (1, .int a1), (2, .int a2)]) (tat ok_X8_independentLines_1 (i := 36) (q := 142) rfl rfl) 3 rfl (ia ic_1) (Nat.le_of_ble_eq_true rfl) rfl <|
    V_goto (tat ok_X8_independentLines_1 (i := 37) (q := 145) rfl rfl) rfl <|
    V_pick [1, 2, 3, 0] rfl (hk (a2, (a3 + 1), L) (jq (P := oP P) kq rfl))
def F_X8_independentLines_12_1 (I : WI) (L : WL) (a1 : Int32) (a2 : Int32) (a3 : Int32) (a4 : Int32) : Option ((Int32 × WL) ⊕ (Int32 × Int32 × WL)) :=
  (frp0 (fun i x => (F_X8_independentLines_25_2 I (p2 x) a1 a3 i (p1 x))) (F_X0_linesOf I 1 a3) (fu a4 (F_X0_linesOf I 1 a3)) a4 (a2, L)).bind (fun q => (F_X8_independentLines_139_1 I (p2 (p2 q)) a1 (p1 (p2 q)) a3))
theorem V_X8_independentLines_12_1  {I : WI} {L : WL} {a1 : Int32} {a2 : Int32} {a3 : Int32} {a4 : Int32} {P : ((Int32 × WL) ⊕ (Int32 × Int32 × WL)) → Prop} {t : Tg} (hb4 : bz a4 = a4) (he : ∀ x : (Int32 × WL), P (.inl x) → V (zM x_X8_independentLines 4 0 0 t) 145 [(0, .ref 0), (1, .int a1), (2, .int (p1 x))] [] ly0 I (p2 x) R0 0 0) (hk : ∀ x : (Int32 × Int32 × WL), P (.inr x) → V (zM x_X8_independentLines 4 0 0 t) 4 [(0, .ref 0), (1, .int a1), (2, .int (p1 x)), (3, .int (p1 (p2 x)))] [] ly0 I (p2 (p2 x)) R0 0 0) (kk : oP P (F_X8_independentLines_12_1 I L a1 a2 a3 a4)) : V (zM x_X8_independentLines 4 0 0 t) 12 [(0, .ref 0), (1, .int a1), (2, .int a2), (3, .int a3), (4, .int a4)] [] ly0 I L R0 0 0 :=
  V_frp0 (fun i x => (F_X8_independentLines_25_2 I (p2 x) a1 a3 i (p1 x))) (F_X0_linesOf I 1 a3) (fun i x => V (zM x_X8_independentLines 4 0 0 t) 12 [(0, .ref 0), (1, .int a1), (2, .int (p1 x)), (3, .int a3), (4, .int i)] [] ly0 I (p2 x) R0 0 0) (fun i x => oP P ((F_X8_independentLines_139_1 I (p2 x) a1 (p1 x) a3))) (c := a4) (s := (a2, L)) (fun i x kx kb => V_iload (tat ok_X8_independentLines_0 (i := 9) (q := 14) rfl rfl) 4 rfl <|
    V_aload_n (tat ok_X8_independentLines_0 (i := 10) (q := 15) rfl rfl) 0 rfl rfl <|
    V_getR (tat ok_X8_independentLines_0 (i := 11) (q := 18) rfl rfl) fk_X8_14 rfl rfl <|
    V_iload_n (tat ok_X8_independentLines_0 (i := 12) (q := 19) rfl rfl) 3 rfl rfl <|
    V_cv1 (ct_X0_linesOf I (p2 x) 1 a3 rfl) mo_X0_linesOf (tat ok_X8_independentLines_0 (i := 13) (q := 22) rfl rfl) ml_X8_126 rfl ⟨by decide, _, rfl, rfl⟩ ⟨(Nat.le_of_ble_eq_true rfl), (Nat.le_of_ble_eq_true rfl)⟩ ⟨(Nat.le_of_ble_eq_true rfl), (Nat.le_of_ble_eq_true rfl)⟩ (Nat.le_of_ble_eq_true rfl) <|
    V_icmp_ge (tat ok_X8_independentLines_0 (i := 14) (q := 25) rfl rfl) rfl (fun c0 => V_pick [0, 1, 2, 3] rfl (V_X8_independentLines_139_1  he hk (kx c0))) (fun c0 => V_X8_independentLines_25_2 (P := (fun x => (fun i x => V (zM x_X8_independentLines 4 0 0 t) 12 [(0, .ref 0), (1, .int a1), (2, .int (p1 x)), (3, .int a3), (4, .int i)] [] ly0 I (p2 x) R0 0 0) (i + 1) x))  (fun _ e => e) (kb c0))) (oP_bind (f := fun q => _) kk)
def F_X8_independentLines_4_1 (I : WI) (L : WL) (a1 : Int32) (a2 : Int32) (a3 : Int32) : Option ((Int32 × WL) ⊕ (Int32 × Int32 × WL)) :=
  (if a1 < a3 then some (.inl (a2, L)) else (F_X8_independentLines_12_1 I L a1 a2 a3 0))
theorem V_X8_independentLines_4_1  {I : WI} {L : WL} {a1 : Int32} {a2 : Int32} {a3 : Int32} {P : ((Int32 × WL) ⊕ (Int32 × Int32 × WL)) → Prop} {t : Tg} (he : ∀ x : (Int32 × WL), P (.inl x) → V (zM x_X8_independentLines 4 0 0 t) 145 [(0, .ref 0), (1, .int a1), (2, .int (p1 x))] [] ly0 I (p2 x) R0 0 0) (hk : ∀ x : (Int32 × Int32 × WL), P (.inr x) → V (zM x_X8_independentLines 4 0 0 t) 4 [(0, .ref 0), (1, .int a1), (2, .int (p1 x)), (3, .int (p1 (p2 x)))] [] ly0 I (p2 (p2 x)) R0 0 0) : oP P (F_X8_independentLines_4_1 I L a1 a2 a3) → V (zM x_X8_independentLines 4 0 0 t) 4 [(0, .ref 0), (1, .int a1), (2, .int a2), (3, .int a3)] [] ly0 I L R0 0 0 :=
  fun _ =>
  have kq : (oP P (F_X8_independentLines_4_1 I L a1 a2 a3)) ∧ True := ⟨by assumption, trivial⟩
  V_iload_n (tat ok_X8_independentLines_0 (i := 4) (q := 5) rfl rfl) 3 rfl rfl <|
    V_iload_n (tat ok_X8_independentLines_0 (i := 5) (q := 6) rfl rfl) 1 rfl rfl <|
    V_icmp_gt (tat ok_X8_independentLines_0 (i := 6) (q := 9) rfl rfl) rfl (fun c1 => V_pick [0, 1, 2] rfl (he (a2, L) (jq (P := oP P) kq (if_pos c1)))) (fun c1 => V_iconst (tat ok_X8_independentLines_0 (i := 7) (q := 10) rfl rfl) ic_0 <|
    V_istore (lv' := [(4, .int 0), (0, .ref 0), (1, .int a1), (2, .int a2), (3, .int a3)]) (tat ok_X8_independentLines_0 (i := 8) (q := 12) rfl rfl) (Nat.le_of_ble_eq_true rfl) rfl <|
    V_pick [1, 2, 3, 4, 0] rfl (V_X8_independentLines_12_1 rfl he hk (jq (P := oP P) kq (if_neg c1))))
def F_X8_independentLines_145 (I : WI) (L : WL) (a1 : Int32) (a2 : Int32) : Option (Int32 × WL) :=
  some (a2, L)
theorem V_X8_independentLines_145  {I : WI} {L : WL} {a1 : Int32} {a2 : Int32} {P : (Int32 × WL) → Prop} {t : Tg} (hr : ∀ v, P v → t = (some (.int (p1 v)), ly0, I, (p2 v), R0)) : oP P (F_X8_independentLines_145 I L a1 a2) → V (zM x_X8_independentLines 4 0 0 t) 145 [(0, .ref 0), (1, .int a1), (2, .int a2)] [] ly0 I L R0 0 0 :=
  fun _ =>
  have kq : (oP P (F_X8_independentLines_145 I L a1 a2)) ∧ True := ⟨by assumption, trivial⟩
  V_iload_n (tat ok_X8_independentLines_1 (i := 38) (q := 146) rfl rfl) 2 rfl rfl <|
    V_iret (tat ok_X8_independentLines_1 (i := 39) (q := 147) rfl rfl) _ rfl (nar_int _) (hr (a2, L) (jq (P := oP P) kq rfl)) ⟨(Nat.le_of_ble_eq_true rfl), (Nat.le_of_ble_eq_true rfl)⟩
def F_X8_independentLines_4 (I : WI) (L : WL) (a1 : Int32) (a2 : Int32) (a3 : Int32) : Option (Int32 × WL) :=
  (lpp (fun x => (F_X8_independentLines_4_1 I (p2 (p2 x)) a1 (p1 x) (p1 (p2 x)))) 4294967296 (a2, a3, L)).bind (fun q => (F_X8_independentLines_145 I (p2 q) a1 (p1 q)))
theorem V_X8_independentLines_4  {I : WI} {L : WL} {a1 : Int32} {a2 : Int32} {a3 : Int32} {P : (Int32 × WL) → Prop} {t : Tg} (hb2 : bz a2 = a2) (hb3 : bz a3 = a3) (hr : ∀ v, P v → t = (some (.int (p1 v)), ly0, I, (p2 v), R0)) (kk : oP P (F_X8_independentLines_4 I L a1 a2 a3)) : V (zM x_X8_independentLines 4 0 0 t) 4 [(0, .ref 0), (1, .int a1), (2, .int a2), (3, .int a3)] [] ly0 I L R0 0 0 :=
  V_lpp (fun x => (F_X8_independentLines_4_1 I (p2 (p2 x)) a1 (p1 x) (p1 (p2 x)))) (fun x => V (zM x_X8_independentLines 4 0 0 t) 4 [(0, .ref 0), (1, .int a1), (2, .int (p1 x)), (3, .int (p1 (p2 x)))] [] ly0 I (p2 (p2 x)) R0 0 0) (fun x => oP P ((F_X8_independentLines_145 I (p2 x) a1 (p1 x)))) (s := (a2, a3, L)) (fun x e0 => V_X8_independentLines_4_1 (P := Sum.elim (fun x => oP P ((F_X8_independentLines_145 I (p2 x) a1 (p1 x)))) (fun x => V (zM x_X8_independentLines 4 0 0 t) 4 [(0, .ref 0), (1, .int a1), (2, .int (p1 x)), (3, .int (p1 (p2 x)))] [] ly0 I (p2 (p2 x)) R0 0 0))  (fun x e => V_X8_independentLines_145  hr e) (fun _ e => e) e0) (oP_bind (f := fun q => _) kk)
def F_X8_independentLines (I : WI) (L : WL) (a1 : Int32) : Option (Int32 × WL) :=
  (F_X8_independentLines_4 I L a1 0 0)
theorem V_X8_independentLines  {I : WI} {L : WL} {a1 : Int32}  {P : (Int32 × WL) → Prop} {t : Tg} (hr : ∀ v, P v → t = (some (.int (p1 v)), ly0, I, (p2 v), R0)) : oP P (F_X8_independentLines I L a1) → V (zM x_X8_independentLines 4 0 0 t) 0 [(0, .ref 0), (1, .int a1)] [] ly0 I L R0 0 0 :=
  fun _ =>
  have kq : (oP P (F_X8_independentLines I L a1)) ∧ True := ⟨by assumption, trivial⟩
  V_iconst (tat ok_X8_independentLines_0 (i := 0) (q := 1) rfl rfl) ic_0 <|
    V_istore_n (lv' := [(2, .int 0), (0, .ref 0), (1, .int a1)]) (tat ok_X8_independentLines_0 (i := 1) (q := 2) rfl rfl) rfl (Nat.le_of_ble_eq_true rfl) rfl <|
    V_iconst (tat ok_X8_independentLines_0 (i := 2) (q := 3) rfl rfl) ic_0 <|
    V_istore_n (lv' := [(3, .int 0), (2, .int 0), (0, .ref 0), (1, .int a1)]) (tat ok_X8_independentLines_0 (i := 3) (q := 4) rfl rfl) rfl (Nat.le_of_ble_eq_true rfl) rfl <|
    V_pick [2, 3, 1, 0] rfl (V_X8_independentLines_4 rfl rfl hr (jq (P := oP P) kq rfl))
theorem ct_X8_independentLines  (I : WI) (L : WL) (a1 : Int32)  {v : (Int32 × WL)} (h : (F_X8_independentLines I L a1) = some v) : Ct x_X8_independentLines 4 [.ref 0, .int a1] ly0 I L R0 0 0 (some (.int (p1 v)), ly0, I, (p2 v), R0) :=
  Ct_of_V mo_X8_independentLines.1 (Nat.le_of_ble_eq_true rfl) (V_X8_independentLines (P := fun x => x = v)  (fun _ e => by rw [e]) (by rw [h]; exact rfl))
def F_X8_power_24 (I : WI) (L : WL) (a1 : Int32) (s0 : Int32) : Option (Int32 × WL) :=
  some (s0, L)
theorem V_X8_power_24  {I : WI} {L : WL} {a1 : Int32} {s0 : Int32} {P : (Int32 × WL) → Prop} {t : Tg} (hr : ∀ v, P v → t = (some (.int (p1 v)), ly0, I, (p2 v), R0)) : oP P (F_X8_power_24 I L a1 s0) → V (zM x_X8_power 5 0 0 t) 24 [(0, .ref 0), (1, .int a1)] [.int s0] ly0 I L R0 0 0 :=
  fun _ =>
  have kq : (oP P (F_X8_power_24 I L a1 s0)) ∧ True := ⟨by assumption, trivial⟩
  V_iret (tat ok_X8_power_0 (i := 14) (q := 25) rfl rfl) _ rfl (nar_int _) (hr (s0, L) (jq (P := oP P) kq rfl)) ⟨(Nat.le_of_ble_eq_true rfl), (Nat.le_of_ble_eq_true rfl)⟩
def F_X8_power (I : WI) (L : WL) (a1 : Int32) : Option (Int32 × WL) :=
  (if a1 = 0 then (Option.bind (F_X8_independentLines I L 1) (fun v2 => some ((p1 v2), (p2 v2)))) else (if a1 = 1 then (Option.bind (F_X8_independentLines I L 2) (fun v4 => (F_X8_power_24 I (p2 v4) a1 (p1 v4)))) else (F_X8_power_24 I L a1 (-1))))
theorem V_X8_power  {I : WI} {L : WL} {a1 : Int32}  {P : (Int32 × WL) → Prop} {t : Tg} (hr : ∀ v, P v → t = (some (.int (p1 v)), ly0, I, (p2 v), R0)) : oP P (F_X8_power I L a1) → V (zM x_X8_power 5 0 0 t) 0 [(0, .ref 0), (1, .int a1)] [] ly0 I L R0 0 0 :=
  fun _ =>
  have kq : (oP P (F_X8_power I L a1)) ∧ True := ⟨by assumption, trivial⟩
  V_iload_n (tat ok_X8_power_0 (i := 0) (q := 1) rfl rfl) 1 rfl rfl <|
    V_if_ne (tat ok_X8_power_0 (i := 1) (q := 4) rfl rfl) rfl (fun c1 => V_iload_n (tat ok_X8_power_0 (i := 6) (q := 11) rfl rfl) 1 rfl rfl <|
    V_iconst (tat ok_X8_power_0 (i := 7) (q := 12) rfl rfl) ic_1 <|
    V_icmp_ne (tat ok_X8_power_0 (i := 8) (q := 15) rfl rfl) rfl (fun c3 => V_iconst (tat ok_X8_power_0 (i := 13) (q := 24) rfl rfl) ic_m1 <|
    V_X8_power_24  hr (jq (P := oP P) kq (Eq.trans (if_neg c1) (if_neg c3)))) (fun c3 => V_aload_n (tat ok_X8_power_0 (i := 9) (q := 16) rfl rfl) 0 rfl rfl <|
    V_iconst (tat ok_X8_power_0 (i := 10) (q := 17) rfl rfl) ic_2 <|
    oP_case (jq (P := oP P) kq (Eq.trans (if_neg c1) (if_pos c3))) (fun v4 e4 _ => V_cv1 (ct_X8_independentLines I L 2  e4) mo_X8_independentLines (tat ok_X8_power_0 (i := 11) (q := 20) rfl rfl) ml_X8_234 rfl ⟨by decide, _, rfl, rfl⟩ ⟨(Nat.le_of_ble_eq_true rfl), (Nat.le_of_ble_eq_true rfl)⟩ ⟨(Nat.le_of_ble_eq_true rfl), (Nat.le_of_ble_eq_true rfl)⟩ (Nat.le_of_ble_eq_true rfl) <|
    V_goto (tat ok_X8_power_0 (i := 12) (q := 23) rfl rfl) rfl <|
    V_X8_power_24  hr (jq (P := oP P) kq (Eq.trans (if_neg c1) (Eq.trans (if_pos c3) (ob e4))))))) (fun c1 => V_aload_n (tat ok_X8_power_0 (i := 2) (q := 5) rfl rfl) 0 rfl rfl <|
    V_iconst (tat ok_X8_power_0 (i := 3) (q := 6) rfl rfl) ic_1 <|
    oP_case (jq (P := oP P) kq (if_pos c1)) (fun v2 e2 _ => V_cv1 (ct_X8_independentLines I L 1  e2) mo_X8_independentLines (tat ok_X8_power_0 (i := 4) (q := 9) rfl rfl) ml_X8_234 rfl ⟨by decide, _, rfl, rfl⟩ ⟨(Nat.le_of_ble_eq_true rfl), (Nat.le_of_ble_eq_true rfl)⟩ ⟨(Nat.le_of_ble_eq_true rfl), (Nat.le_of_ble_eq_true rfl)⟩ (Nat.le_of_ble_eq_true rfl) <|
    V_iret (tat ok_X8_power_0 (i := 5) (q := 10) rfl rfl) _ rfl (nar_int _) (hr ((p1 v2), (p2 v2)) (jq (P := oP P) kq (Eq.trans (if_pos c1) (ob e2)))) ⟨(Nat.le_of_ble_eq_true rfl), (Nat.le_of_ble_eq_true rfl)⟩))
theorem ct_X8_power  (I : WI) (L : WL) (a1 : Int32)  {v : (Int32 × WL)} (h : (F_X8_power I L a1) = some v) : Ct x_X8_power 5 [.ref 0, .int a1] ly0 I L R0 0 0 (some (.int (p1 v)), ly0, I, (p2 v), R0) :=
  Ct_of_V mo_X8_power.1 (Nat.le_of_ble_eq_true rfl) (V_X8_power (P := fun x => x = v)  (fun _ e => by rw [e]) (by rw [h]; exact rfl))
def F_X8_isBetter_27 (a0 : Int32) (a1 : Int32) (a2 : Int32) (s0 : Int32) : Int32 :=
  s0
theorem V_X8_isBetter_27  {I : WI} {L : WL} {a0 : Int32} {a1 : Int32} {a2 : Int32} {s0 : Int32} {P : Int32 → Prop} {t : Tg} (hs0 : bz s0 = s0) (hr : ∀ v, P v → t = (some (.int v), ly0, I, L, R0)) (kk : P (F_X8_isBetter_27 a0 a1 a2 s0)) : V (zM x_X8_isBetter 1 0 0 t) 27 [(0, .int a0), (1, .int a1), (2, .int a2)] [.int s0] ly0 I L R0 0 0 :=
  V_iret (tat ok_X8_isBetter_0 (i := 15) (q := 28) rfl rfl) _ rfl (bz_nf hs0).1 (hr s0 (jx (P := P) kk rfl)) ⟨(Nat.le_of_ble_eq_true rfl), (Nat.le_of_ble_eq_true rfl)⟩
def F_X8_isBetter (a0 : Int32) (a1 : Int32) (a2 : Int32) : Int32 :=
  (if a0 = 0 then (if a2 ≤ a1 then (F_X8_isBetter_27 a0 a1 a2 0) else (F_X8_isBetter_27 a0 a1 a2 1)) else (if a1 ≤ a2 then (F_X8_isBetter_27 a0 a1 a2 0) else (F_X8_isBetter_27 a0 a1 a2 1)))
theorem V_X8_isBetter  {I : WI} {L : WL} {a0 : Int32} {a1 : Int32} {a2 : Int32}  {P : Int32 → Prop} {t : Tg} (hr : ∀ v, P v → t = (some (.int v), ly0, I, L, R0)) (kk : P (F_X8_isBetter a0 a1 a2)) : V (zM x_X8_isBetter 1 0 0 t) 0 [(0, .int a0), (1, .int a1), (2, .int a2)] [] ly0 I L R0 0 0 :=
  V_iload_n (tat ok_X8_isBetter_0 (i := 0) (q := 1) rfl rfl) 0 rfl rfl <|
    V_if_eq (tat ok_X8_isBetter_0 (i := 1) (q := 4) rfl rfl) rfl (fun c1 => V_iload_n (tat ok_X8_isBetter_0 (i := 9) (q := 18) rfl rfl) 1 rfl rfl <|
    V_iload_n (tat ok_X8_isBetter_0 (i := 10) (q := 19) rfl rfl) 2 rfl rfl <|
    V_icmp_ge (tat ok_X8_isBetter_0 (i := 11) (q := 22) rfl rfl) rfl (fun c2 => V_iconst (tat ok_X8_isBetter_0 (i := 14) (q := 27) rfl rfl) ic_0 <|
    V_X8_isBetter_27 rfl hr (jx (P := P) kk (Eq.trans (if_pos c1) (if_pos c2)))) (fun c2 => V_iconst (tat ok_X8_isBetter_0 (i := 12) (q := 23) rfl rfl) ic_1 <|
    V_goto (tat ok_X8_isBetter_0 (i := 13) (q := 26) rfl rfl) rfl <|
    V_X8_isBetter_27 rfl hr (jx (P := P) kk (Eq.trans (if_pos c1) (if_neg c2))))) (fun c1 => V_iload_n (tat ok_X8_isBetter_0 (i := 2) (q := 5) rfl rfl) 1 rfl rfl <|
    V_iload_n (tat ok_X8_isBetter_0 (i := 3) (q := 6) rfl rfl) 2 rfl rfl <|
    V_icmp_le (tat ok_X8_isBetter_0 (i := 4) (q := 9) rfl rfl) rfl (fun c3 => V_iconst (tat ok_X8_isBetter_0 (i := 7) (q := 14) rfl rfl) ic_0 <|
    V_goto (tat ok_X8_isBetter_0 (i := 8) (q := 17) rfl rfl) rfl <|
    V_X8_isBetter_27 rfl hr (jx (P := P) kk (Eq.trans (if_neg c1) (if_pos c3)))) (fun c3 => V_iconst (tat ok_X8_isBetter_0 (i := 5) (q := 10) rfl rfl) ic_1 <|
    V_goto (tat ok_X8_isBetter_0 (i := 6) (q := 13) rfl rfl) rfl <|
    V_X8_isBetter_27 rfl hr (jx (P := P) kk (Eq.trans (if_neg c1) (if_neg c3)))))
theorem ct_X8_isBetter  (I : WI) (L : WL) (a0 : Int32) (a1 : Int32) (a2 : Int32)  : Ct x_X8_isBetter 1 [.int a0, .int a1, .int a2] ly0 I L R0 0 0 (some (.int (F_X8_isBetter a0 a1 a2)), ly0, I, L, R0) :=
  Ct_of_V mo_X8_isBetter.1 (Nat.le_of_ble_eq_true rfl) (V_X8_isBetter (P := fun x => x = (F_X8_isBetter a0 a1 a2))  (fun _ e => by rw [e]) rfl)
def G_0 (I : WI) (r0 : Nat) (a1 : Int64) (a3 : Int32) (a4 : Int32) : Int32 := F_J13_bitCount_95d88 a1
theorem ct_G0 (I : WI) (L : WL) (r0 : Nat) (a1 : Int64) (a3 : Int32) (a4 : Int32) (hr0 : isX0 r0) (hl : a3.toInt ≤ 0) : Ct x_X8_endOfDuel 5 [.ref r0, .long a1, .int a3, .int a4] ly0 I L R0 0 0 (some (.int (G_0 I r0 a1 a3 a4)), ly0, I, L, R0) :=
  Ct_of_V mo_X8_endOfDuel.1 (Nat.le_of_ble_eq_true rfl) (V_iload_n (tat ok_X8_endOfDuel_0 (i := 0) (q := 1) rfl rfl) 2 rfl rfl <|
    V_iconst (tat ok_X8_endOfDuel_0 (i := 1) (q := 2) rfl rfl) ic_1 <|
    V_icmp_lt (tat ok_X8_endOfDuel_0 (i := 2) (q := 5) rfl rfl) rfl (fun _ => V_lload_n (tat ok_X8_endOfDuel_0 (i := 6) (q := 11) rfl rfl) 1 rfl rfl <|
    V_cs1 (ct_J13_bitCount_95d88 I L a1) mo_J13_bitCount_95d88 (tat ok_X8_endOfDuel_0 (i := 7) (q := 14) rfl rfl) ml_X8_322 ⟨(Nat.le_of_ble_eq_true rfl), (Nat.le_of_ble_eq_true rfl)⟩ ⟨(Nat.le_of_ble_eq_true rfl), (Nat.le_of_ble_eq_true rfl)⟩ (Nat.le_of_ble_eq_true rfl) <|
    V_iret (tat ok_X8_endOfDuel_0 (i := 8) (q := 15) rfl rfl) _ rfl (nar_int _) rfl ⟨(Nat.le_of_ble_eq_true rfl), (Nat.le_of_ble_eq_true rfl)⟩) (fun c => absurd (Int32.lt_iff_toInt_lt.mpr (by have : (1 : Int32).toInt = 1 := rfl; omega)) c))
theorem du {x : Int32} {n m : Nat} (hg : ¬ x < 1) (hl : x.toInt ≤ (m : Int)) (h : m = n + 1) : (x - 1).toInt ≤ (n : Int) := by
  rw [Int32.lt_iff_toInt_lt] at hg
  have h1 : (1 : Int32).toInt = 1 := rfl
  have h2 := x.toInt_lt
  rw [Int32.toInt_sub, h1, Int.bmod_def]
  split <;> omega
def F_X8_eod1_10 (I : WI) (r0 : Nat) (a1 : Int64) (a3 : Int32) (a4 : Int32) : Int32 :=
  (F_J13_bitCount_95d88 a1)
theorem V_X8_eod1_10  {I : WI} {L : WL} {r0 : Nat} {a1 : Int64} {a3 : Int32} {a4 : Int32}  {P : Int32 → Prop} {t : Tg} (hr0 : isX0 r0) (hl : a3.toInt ≤ 1) (hg : ¬ a3 < 1) (hr : ∀ v, P v → t = (some (.int v), ly0, I, L, R0)) (kk : P (F_X8_eod1_10 I r0 a1 a3 a4)) : V (zM x_X8_endOfDuel 6 0 0 t) 10 [(0, .ref r0), (1, .long a1), (3, .int a3), (4, .int a4)] [] ly0 I L R0 0 0 :=
  V_lload_n (tat ok_X8_endOfDuel_0 (i := 6) (q := 11) rfl rfl) 1 rfl rfl <|
    V_cs1 (ct_J13_bitCount_95d88 I L a1 ) mo_J13_bitCount_95d88 (tat ok_X8_endOfDuel_0 (i := 7) (q := 14) rfl rfl) ml_X8_322 ⟨(Nat.le_of_ble_eq_true rfl), (Nat.le_of_ble_eq_true rfl)⟩ ⟨(Nat.le_of_ble_eq_true rfl), (Nat.le_of_ble_eq_true rfl)⟩ (Nat.le_of_ble_eq_true rfl) <|
    V_iret (tat ok_X8_endOfDuel_0 (i := 8) (q := 15) rfl rfl) _ rfl (nar_int _) (hr (F_J13_bitCount_95d88 a1) (jx (P := P) kk rfl)) ⟨(Nat.le_of_ble_eq_true rfl), (Nat.le_of_ble_eq_true rfl)⟩
def F_X8_eod1_106_1 (I : WI) (r0 : Nat) (a1 : Int64) (a3 : Int32) (a4 : Int32) (a5 : Int32) (a7 : Int32) (a6 : Int32) : Int32 :=
  a6
theorem V_X8_eod1_106_1  {I : WI} {L : WL} {r0 : Nat} {a1 : Int64} {a3 : Int32} {a4 : Int32} {a5 : Int32} {a7 : Int32} {a6 : Int32} {P : Int32 → Prop} {t : Tg} (hr0 : isX0 r0) (hl : a3.toInt ≤ 1) (hg : ¬ a3 < 1) (hb5 : bz a5 = a5) (hk : ∀ x : Int32, P x → V (zM x_X8_endOfDuel 6 0 0 t) 50 [(0, .ref r0), (1, .long a1), (3, .int a3), (4, .int a4), (5, .int a5), (6, .int x), (7, .int (a7 + 1))] [] ly0 I L R0 0 0) (kk : P (F_X8_eod1_106_1 I r0 a1 a3 a4 a5 a7 a6)) : V (zM x_X8_endOfDuel 6 0 0 t) 106 [(0, .ref r0), (1, .long a1), (3, .int a3), (4, .int a4), (5, .int a5), (6, .int a6), (7, .int a7)] [] ly0 I L R0 0 0 :=
  V_iinc (v := (a7 + 1)) (lv' := [(7, .int (a7 + 1)), (0, .ref r0), (1, .long a1), (3, .int a3), (4, .int a4), (5, .int a5), (6, .int a6)]) (tat ok_X8_endOfDuel_1 (i := 18) (q := 109) rfl rfl) 6 rfl (ia ic_1) (Nat.le_of_ble_eq_true rfl) rfl <|
    V_goto (tat ok_X8_endOfDuel_1 (i := 19) (q := 112) rfl rfl) rfl <|
    V_pick [1, 2, 3, 4, 5, 6, 0] rfl (hk a6 (jx (P := P) kk rfl))
def F_X8_eod1_61_1 (I : WI) (r0 : Nat) (a1 : Int64) (a3 : Int32) (a4 : Int32) (a5 : Int32) (a7 : Int32) (a6 : Int32) : Int32 :=
  (if a4 = 0 then (if (F_X8_isBetter a4 (G_0 I r0 (a1 ^^^ (F_X0_squaresOf I r0 a5 a7)) (a3 - 1) 1) a6) = 0 then (F_X8_eod1_106_1 I r0 a1 a3 a4 a5 a7 a6) else (F_X8_eod1_106_1 I r0 a1 a3 a4 a5 a7 (G_0 I r0 (a1 ^^^ (F_X0_squaresOf I r0 a5 a7)) (a3 - 1) 1))) else (if (F_X8_isBetter a4 (G_0 I r0 (a1 ^^^ (F_X0_squaresOf I r0 a5 a7)) (a3 - 1) 0) a6) = 0 then (F_X8_eod1_106_1 I r0 a1 a3 a4 a5 a7 a6) else (F_X8_eod1_106_1 I r0 a1 a3 a4 a5 a7 (G_0 I r0 (a1 ^^^ (F_X0_squaresOf I r0 a5 a7)) (a3 - 1) 0))))
theorem V_X8_eod1_61_1  {I : WI} {L : WL} {r0 : Nat} {a1 : Int64} {a3 : Int32} {a4 : Int32} {a5 : Int32} {a7 : Int32} {a6 : Int32} {P : Int32 → Prop} {t : Tg} (hr0 : isX0 r0) (hl : a3.toInt ≤ 1) (hg : ¬ a3 < 1) (hb5 : bz a5 = a5) (hk : ∀ x : Int32, P x → V (zM x_X8_endOfDuel 6 0 0 t) 50 [(0, .ref r0), (1, .long a1), (3, .int a3), (4, .int a4), (5, .int a5), (6, .int x), (7, .int (a7 + 1))] [] ly0 I L R0 0 0) (kk : P (F_X8_eod1_61_1 I r0 a1 a3 a4 a5 a7 a6)) : V (zM x_X8_endOfDuel 6 0 0 t) 61 [(0, .ref r0), (1, .long a1), (3, .int a3), (4, .int a4), (5, .int a5), (6, .int a6), (7, .int a7)] [] ly0 I L R0 0 0 :=
  V_aload_n (tat ok_X8_endOfDuel_0 (i := 34) (q := 62) rfl rfl) 0 rfl rfl <|
    V_lload_n (tat ok_X8_endOfDuel_0 (i := 35) (q := 63) rfl rfl) 1 rfl rfl <|
    V_aload_n (tat ok_X8_endOfDuel_0 (i := 36) (q := 64) rfl rfl) 0 rfl rfl <|
    V_iload (tat ok_X8_endOfDuel_0 (i := 37) (q := 66) rfl rfl) 4 rfl <|
    V_iload (tat ok_X8_endOfDuel_0 (i := 38) (q := 68) rfl rfl) 6 rfl <|
    V_cv2 (ct_X0_squaresOf I L r0 a5 a7 hr0) mo_X0_squaresOf (tat ok_X8_endOfDuel_0 (i := 39) (q := 71) rfl rfl) ml_X8_155 hr0 ⟨by decide, _, rfl, rfl⟩ ⟨(Nat.le_of_ble_eq_true rfl), (Nat.le_of_ble_eq_true rfl)⟩ ⟨(Nat.le_of_ble_eq_true rfl), (Nat.le_of_ble_eq_true rfl)⟩ (Nat.le_of_ble_eq_true rfl) <|
    V_lxor (tat ok_X8_endOfDuel_1 (i := 0) (q := 72) rfl rfl) <|
    V_iload_n (tat ok_X8_endOfDuel_1 (i := 1) (q := 73) rfl rfl) 2 rfl rfl <|
    V_iconst (tat ok_X8_endOfDuel_1 (i := 2) (q := 74) rfl rfl) ic_1 <|
    V_isub (tat ok_X8_endOfDuel_1 (i := 3) (q := 75) rfl rfl) <|
    V_iload (tat ok_X8_endOfDuel_1 (i := 4) (q := 77) rfl rfl) 3 rfl <|
    V_if_ne (tat ok_X8_endOfDuel_1 (i := 5) (q := 80) rfl rfl) rfl (fun c5 => V_iconst (tat ok_X8_endOfDuel_1 (i := 8) (q := 85) rfl rfl) ic_0 <|
    V_cs4 (ct_G0 I L r0 (a1 ^^^ (F_X0_squaresOf I r0 a5 a7)) (a3 - 1) 0 hr0 (du hg hl rfl)) mo_X8_endOfDuel (tat ok_X8_endOfDuel_1 (i := 9) (q := 88) rfl rfl) ml_X8_237 ⟨(Nat.le_of_ble_eq_true rfl), (Nat.le_of_ble_eq_true rfl)⟩ ⟨(Nat.le_of_ble_eq_true rfl), (Nat.le_of_ble_eq_true rfl)⟩ (Nat.le_of_ble_eq_true rfl) <|
    V_istore (lv' := [(8, .int (G_0 I r0 (a1 ^^^ (F_X0_squaresOf I r0 a5 a7)) (a3 - 1) 0)), (0, .ref r0), (1, .long a1), (3, .int a3), (4, .int a4), (5, .int a5), (6, .int a6), (7, .int a7)]) (tat ok_X8_endOfDuel_1 (i := 10) (q := 90) rfl rfl) (Nat.le_of_ble_eq_true rfl) rfl <|
    V_iload (tat ok_X8_endOfDuel_1 (i := 11) (q := 92) rfl rfl) 4 rfl <|
    V_iload (tat ok_X8_endOfDuel_1 (i := 12) (q := 94) rfl rfl) 0 rfl <|
    V_iload (tat ok_X8_endOfDuel_1 (i := 13) (q := 96) rfl rfl) 6 rfl <|
    V_cs3 (ct_X8_isBetter I L a4 (G_0 I r0 (a1 ^^^ (F_X0_squaresOf I r0 a5 a7)) (a3 - 1) 0) a6 ) mo_X8_isBetter (tat ok_X8_endOfDuel_1 (i := 14) (q := 99) rfl rfl) ml_X8_241 ⟨(Nat.le_of_ble_eq_true rfl), (Nat.le_of_ble_eq_true rfl)⟩ ⟨(Nat.le_of_ble_eq_true rfl), (Nat.le_of_ble_eq_true rfl)⟩ (Nat.le_of_ble_eq_true rfl) <|
    V_if_eq (tat ok_X8_endOfDuel_1 (i := 15) (q := 102) rfl rfl) rfl (fun c7 => V_pick [1, 2, 3, 4, 5, 6, 7] rfl (V_X8_eod1_106_1 hr0 hl hg hb5 hk (jx (P := P) kk (Eq.trans (if_neg c5) (if_pos c7))))) (fun c7 => V_iload (tat ok_X8_endOfDuel_1 (i := 16) (q := 104) rfl rfl) 0 rfl <|
    V_istore (lv' := [(6, .int (G_0 I r0 (a1 ^^^ (F_X0_squaresOf I r0 a5 a7)) (a3 - 1) 0)), (8, .int (G_0 I r0 (a1 ^^^ (F_X0_squaresOf I r0 a5 a7)) (a3 - 1) 0)), (0, .ref r0), (1, .long a1), (3, .int a3), (4, .int a4), (5, .int a5), (7, .int a7)]) (tat ok_X8_endOfDuel_1 (i := 17) (q := 106) rfl rfl) (Nat.le_of_ble_eq_true rfl) rfl <|
    V_pick [2, 3, 4, 5, 6, 0, 7] rfl (V_X8_eod1_106_1 hr0 hl hg hb5 hk (jx (P := P) kk (Eq.trans (if_neg c5) (if_neg c7)))))) (fun c5 => V_iconst (tat ok_X8_endOfDuel_1 (i := 6) (q := 81) rfl rfl) ic_1 <|
    V_goto (tat ok_X8_endOfDuel_1 (i := 7) (q := 84) rfl rfl) rfl <|
    V_cs4 (ct_G0 I L r0 (a1 ^^^ (F_X0_squaresOf I r0 a5 a7)) (a3 - 1) 1 hr0 (du hg hl rfl)) mo_X8_endOfDuel (tat ok_X8_endOfDuel_1 (i := 9) (q := 88) rfl rfl) ml_X8_237 ⟨(Nat.le_of_ble_eq_true rfl), (Nat.le_of_ble_eq_true rfl)⟩ ⟨(Nat.le_of_ble_eq_true rfl), (Nat.le_of_ble_eq_true rfl)⟩ (Nat.le_of_ble_eq_true rfl) <|
    V_istore (lv' := [(8, .int (G_0 I r0 (a1 ^^^ (F_X0_squaresOf I r0 a5 a7)) (a3 - 1) 1)), (0, .ref r0), (1, .long a1), (3, .int a3), (4, .int a4), (5, .int a5), (6, .int a6), (7, .int a7)]) (tat ok_X8_endOfDuel_1 (i := 10) (q := 90) rfl rfl) (Nat.le_of_ble_eq_true rfl) rfl <|
    V_iload (tat ok_X8_endOfDuel_1 (i := 11) (q := 92) rfl rfl) 4 rfl <|
    V_iload (tat ok_X8_endOfDuel_1 (i := 12) (q := 94) rfl rfl) 0 rfl <|
    V_iload (tat ok_X8_endOfDuel_1 (i := 13) (q := 96) rfl rfl) 6 rfl <|
    V_cs3 (ct_X8_isBetter I L a4 (G_0 I r0 (a1 ^^^ (F_X0_squaresOf I r0 a5 a7)) (a3 - 1) 1) a6 ) mo_X8_isBetter (tat ok_X8_endOfDuel_1 (i := 14) (q := 99) rfl rfl) ml_X8_241 ⟨(Nat.le_of_ble_eq_true rfl), (Nat.le_of_ble_eq_true rfl)⟩ ⟨(Nat.le_of_ble_eq_true rfl), (Nat.le_of_ble_eq_true rfl)⟩ (Nat.le_of_ble_eq_true rfl) <|
    V_if_eq (tat ok_X8_endOfDuel_1 (i := 15) (q := 102) rfl rfl) rfl (fun c6 => V_pick [1, 2, 3, 4, 5, 6, 7] rfl (V_X8_eod1_106_1 hr0 hl hg hb5 hk (jx (P := P) kk (Eq.trans (if_pos c5) (if_pos c6))))) (fun c6 => V_iload (tat ok_X8_endOfDuel_1 (i := 16) (q := 104) rfl rfl) 0 rfl <|
    V_istore (lv' := [(6, .int (G_0 I r0 (a1 ^^^ (F_X0_squaresOf I r0 a5 a7)) (a3 - 1) 1)), (8, .int (G_0 I r0 (a1 ^^^ (F_X0_squaresOf I r0 a5 a7)) (a3 - 1) 1)), (0, .ref r0), (1, .long a1), (3, .int a3), (4, .int a4), (5, .int a5), (7, .int a7)]) (tat ok_X8_endOfDuel_1 (i := 17) (q := 106) rfl rfl) (Nat.le_of_ble_eq_true rfl) rfl <|
    V_pick [2, 3, 4, 5, 6, 0, 7] rfl (V_X8_eod1_106_1 hr0 hl hg hb5 hk (jx (P := P) kk (Eq.trans (if_pos c5) (if_neg c6))))))
def F_X8_eod1_112 (I : WI) (r0 : Nat) (a1 : Int64) (a3 : Int32) (a4 : Int32) (a6 : Int32) : Int32 :=
  a6
theorem V_X8_eod1_112  {I : WI} {L : WL} {r0 : Nat} {a1 : Int64} {a3 : Int32} {a4 : Int32} {a6 : Int32} {P : Int32 → Prop} {t : Tg} (hr0 : isX0 r0) (hl : a3.toInt ≤ 1) (hg : ¬ a3 < 1) (hr : ∀ v, P v → t = (some (.int v), ly0, I, L, R0)) (kk : P (F_X8_eod1_112 I r0 a1 a3 a4 a6)) : V (zM x_X8_endOfDuel 6 0 0 t) 112 [(0, .ref r0), (1, .long a1), (3, .int a3), (4, .int a4), (6, .int a6)] [] ly0 I L R0 0 0 :=
  V_iload (tat ok_X8_endOfDuel_1 (i := 20) (q := 114) rfl rfl) 4 rfl <|
    V_iret (tat ok_X8_endOfDuel_1 (i := 21) (q := 115) rfl rfl) _ rfl (nar_int _) (hr a6 (jx (P := P) kk rfl)) ⟨(Nat.le_of_ble_eq_true rfl), (Nat.le_of_ble_eq_true rfl)⟩
def F_X8_eod1_50 (I : WI) (r0 : Nat) (a1 : Int64) (a3 : Int32) (a4 : Int32) (a5 : Int32) (a6 : Int32) (a7 : Int32) : Int32 :=
  (fun q : Int32 × Int32 => (F_X8_eod1_112 I r0 a1 a3 a4 (p2 q))) (fr0 (fun i x => (F_X8_eod1_61_1 I r0 a1 a3 a4 a5 i x)) (F_X0_linesOf I r0 a5) (fu a7 (F_X0_linesOf I r0 a5)) a7 a6)
theorem V_X8_eod1_50  {I : WI} {L : WL} {r0 : Nat} {a1 : Int64} {a3 : Int32} {a4 : Int32} {a5 : Int32} {a6 : Int32} {a7 : Int32} {P : Int32 → Prop} {t : Tg} (hr0 : isX0 r0) (hl : a3.toInt ≤ 1) (hg : ¬ a3 < 1) (hb5 : bz a5 = a5) (hb7 : bz a7 = a7) (hr : ∀ v, P v → t = (some (.int v), ly0, I, L, R0)) (kk : P (F_X8_eod1_50 I r0 a1 a3 a4 a5 a6 a7)) : V (zM x_X8_endOfDuel 6 0 0 t) 50 [(0, .ref r0), (1, .long a1), (3, .int a3), (4, .int a4), (5, .int a5), (6, .int a6), (7, .int a7)] [] ly0 I L R0 0 0 :=
  V_fr0 (fun i x => (F_X8_eod1_61_1 I r0 a1 a3 a4 a5 i x)) (F_X0_linesOf I r0 a5) (fun i x => V (zM x_X8_endOfDuel 6 0 0 t) 50 [(0, .ref r0), (1, .long a1), (3, .int a3), (4, .int a4), (5, .int a5), (6, .int x), (7, .int i)] [] ly0 I L R0 0 0) (fun i x => P ((F_X8_eod1_112 I r0 a1 a3 a4 x))) (c := a7) (s := a6) (fun i x kx kb => V_iload (tat ok_X8_endOfDuel_0 (i := 29) (q := 52) rfl rfl) 6 rfl <|
    V_aload_n (tat ok_X8_endOfDuel_0 (i := 30) (q := 53) rfl rfl) 0 rfl rfl <|
    V_iload (tat ok_X8_endOfDuel_0 (i := 31) (q := 55) rfl rfl) 4 rfl <|
    V_cv1 (ct_X0_linesOf I L r0 a5 hr0) mo_X0_linesOf (tat ok_X8_endOfDuel_0 (i := 32) (q := 58) rfl rfl) ml_X8_126 hr0 ⟨by decide, _, rfl, rfl⟩ ⟨(Nat.le_of_ble_eq_true rfl), (Nat.le_of_ble_eq_true rfl)⟩ ⟨(Nat.le_of_ble_eq_true rfl), (Nat.le_of_ble_eq_true rfl)⟩ (Nat.le_of_ble_eq_true rfl) <|
    V_icmp_ge (tat ok_X8_endOfDuel_0 (i := 33) (q := 61) rfl rfl) rfl (fun c0 => V_pick [0, 1, 2, 3, 5] rfl (V_X8_eod1_112 hr0 hl hg hr (kx c0))) (fun c0 => V_X8_eod1_61_1 (P := (fun x => (fun i x => V (zM x_X8_endOfDuel 6 0 0 t) 50 [(0, .ref r0), (1, .long a1), (3, .int a3), (4, .int a4), (5, .int a5), (6, .int x), (7, .int i)] [] ly0 I L R0 0 0) (i + 1) x)) hr0 hl hg hb5 (fun _ e => e) (kb c0))) kk
def F_X8_eod1_25 (I : WI) (r0 : Nat) (a1 : Int64) (a3 : Int32) (a4 : Int32) (s0 : Int32) : Int32 :=
  (if a4 = 0 then (F_X8_eod1_50 I r0 a1 a3 a4 s0 (G_0 I r0 a1 (a3 - 1) 1) 0) else (F_X8_eod1_50 I r0 a1 a3 a4 s0 (G_0 I r0 a1 (a3 - 1) 0) 0))
theorem V_X8_eod1_25  {I : WI} {L : WL} {r0 : Nat} {a1 : Int64} {a3 : Int32} {a4 : Int32} {s0 : Int32} {P : Int32 → Prop} {t : Tg} (hr0 : isX0 r0) (hl : a3.toInt ≤ 1) (hg : ¬ a3 < 1) (hs0 : bz s0 = s0) (hr : ∀ v, P v → t = (some (.int v), ly0, I, L, R0)) (kk : P (F_X8_eod1_25 I r0 a1 a3 a4 s0)) : V (zM x_X8_endOfDuel 6 0 0 t) 25 [(0, .ref r0), (1, .long a1), (3, .int a3), (4, .int a4)] [.int s0] ly0 I L R0 0 0 :=
  V_istore (lv' := [(5, .int s0), (0, .ref r0), (1, .long a1), (3, .int a3), (4, .int a4)]) (tat ok_X8_endOfDuel_0 (i := 14) (q := 27) rfl rfl) (Nat.le_of_ble_eq_true rfl) rfl <|
    V_aload_n (tat ok_X8_endOfDuel_0 (i := 15) (q := 28) rfl rfl) 1 rfl rfl <|
    V_lload_n (tat ok_X8_endOfDuel_0 (i := 16) (q := 29) rfl rfl) 2 rfl rfl <|
    V_iload_n (tat ok_X8_endOfDuel_0 (i := 17) (q := 30) rfl rfl) 3 rfl rfl <|
    V_iconst (tat ok_X8_endOfDuel_0 (i := 18) (q := 31) rfl rfl) ic_1 <|
    V_isub (tat ok_X8_endOfDuel_0 (i := 19) (q := 32) rfl rfl) <|
    V_iload (tat ok_X8_endOfDuel_0 (i := 20) (q := 34) rfl rfl) 4 rfl <|
    V_if_ne (tat ok_X8_endOfDuel_0 (i := 21) (q := 37) rfl rfl) rfl (fun c4 => V_iconst (tat ok_X8_endOfDuel_0 (i := 24) (q := 42) rfl rfl) ic_0 <|
    V_cs4 (ct_G0 I L r0 a1 (a3 - 1) 0 hr0 (du hg hl rfl)) mo_X8_endOfDuel (tat ok_X8_endOfDuel_0 (i := 25) (q := 45) rfl rfl) ml_X8_237 ⟨(Nat.le_of_ble_eq_true rfl), (Nat.le_of_ble_eq_true rfl)⟩ ⟨(Nat.le_of_ble_eq_true rfl), (Nat.le_of_ble_eq_true rfl)⟩ (Nat.le_of_ble_eq_true rfl) <|
    V_istore (lv' := [(6, .int (G_0 I r0 a1 (a3 - 1) 0)), (5, .int s0), (0, .ref r0), (1, .long a1), (3, .int a3), (4, .int a4)]) (tat ok_X8_endOfDuel_0 (i := 26) (q := 47) rfl rfl) (Nat.le_of_ble_eq_true rfl) rfl <|
    V_iconst (tat ok_X8_endOfDuel_0 (i := 27) (q := 48) rfl rfl) ic_0 <|
    V_istore (lv' := [(7, .int 0), (6, .int (G_0 I r0 a1 (a3 - 1) 0)), (5, .int s0), (0, .ref r0), (1, .long a1), (3, .int a3), (4, .int a4)]) (tat ok_X8_endOfDuel_0 (i := 28) (q := 50) rfl rfl) (Nat.le_of_ble_eq_true rfl) rfl <|
    V_pick [3, 4, 5, 6, 2, 1, 0] rfl (V_X8_eod1_50 hr0 hl hg hs0 rfl hr (jx (P := P) kk (if_neg c4)))) (fun c4 => V_iconst (tat ok_X8_endOfDuel_0 (i := 22) (q := 38) rfl rfl) ic_1 <|
    V_goto (tat ok_X8_endOfDuel_0 (i := 23) (q := 41) rfl rfl) rfl <|
    V_cs4 (ct_G0 I L r0 a1 (a3 - 1) 1 hr0 (du hg hl rfl)) mo_X8_endOfDuel (tat ok_X8_endOfDuel_0 (i := 25) (q := 45) rfl rfl) ml_X8_237 ⟨(Nat.le_of_ble_eq_true rfl), (Nat.le_of_ble_eq_true rfl)⟩ ⟨(Nat.le_of_ble_eq_true rfl), (Nat.le_of_ble_eq_true rfl)⟩ (Nat.le_of_ble_eq_true rfl) <|
    V_istore (lv' := [(6, .int (G_0 I r0 a1 (a3 - 1) 1)), (5, .int s0), (0, .ref r0), (1, .long a1), (3, .int a3), (4, .int a4)]) (tat ok_X8_endOfDuel_0 (i := 26) (q := 47) rfl rfl) (Nat.le_of_ble_eq_true rfl) rfl <|
    V_iconst (tat ok_X8_endOfDuel_0 (i := 27) (q := 48) rfl rfl) ic_0 <|
    V_istore (lv' := [(7, .int 0), (6, .int (G_0 I r0 a1 (a3 - 1) 1)), (5, .int s0), (0, .ref r0), (1, .long a1), (3, .int a3), (4, .int a4)]) (tat ok_X8_endOfDuel_0 (i := 28) (q := 50) rfl rfl) (Nat.le_of_ble_eq_true rfl) rfl <|
    V_pick [3, 4, 5, 6, 2, 1, 0] rfl (V_X8_eod1_50 hr0 hl hg hs0 rfl hr (jx (P := P) kk (if_pos c4))))
def F_X8_eod1 (I : WI) (r0 : Nat) (a1 : Int64) (a3 : Int32) (a4 : Int32) : Int32 :=
  (if a3 < 1 then (F_X8_eod1_10 I r0 a1 a3 a4) else (if a3 ≤ 4 then (if a4 = 0 then (F_X8_eod1_25 I r0 a1 a3 a4 1) else (F_X8_eod1_25 I r0 a1 a3 a4 0)) else (F_X8_eod1_10 I r0 a1 a3 a4)))
theorem V_X8_eod1  {I : WI} {L : WL} {r0 : Nat} {a1 : Int64} {a3 : Int32} {a4 : Int32}  {P : Int32 → Prop} {t : Tg} (hr0 : isX0 r0) (hl : a3.toInt ≤ 1) (hg : ¬ a3 < 1) (hr : ∀ v, P v → t = (some (.int v), ly0, I, L, R0)) (kk : P (F_X8_eod1 I r0 a1 a3 a4)) : V (zM x_X8_endOfDuel 6 0 0 t) 0 [(0, .ref r0), (1, .long a1), (3, .int a3), (4, .int a4)] [] ly0 I L R0 0 0 :=
  V_iload_n (tat ok_X8_endOfDuel_0 (i := 0) (q := 1) rfl rfl) 2 rfl rfl <|
    V_iconst (tat ok_X8_endOfDuel_0 (i := 1) (q := 2) rfl rfl) ic_1 <|
    V_icmp_lt (tat ok_X8_endOfDuel_0 (i := 2) (q := 5) rfl rfl) rfl (fun c1 => V_X8_eod1_10 hr0 hl hg hr (jx (P := P) kk (if_pos c1))) (fun c1 => V_iload_n (tat ok_X8_endOfDuel_0 (i := 3) (q := 6) rfl rfl) 2 rfl rfl <|
    V_iconst (tat ok_X8_endOfDuel_0 (i := 4) (q := 7) rfl rfl) ic_4 <|
    V_icmp_le (tat ok_X8_endOfDuel_0 (i := 5) (q := 10) rfl rfl) rfl (fun c2 => V_iload (tat ok_X8_endOfDuel_0 (i := 9) (q := 17) rfl rfl) 3 rfl <|
    V_if_eq (tat ok_X8_endOfDuel_0 (i := 10) (q := 20) rfl rfl) rfl (fun c3 => V_iconst (tat ok_X8_endOfDuel_0 (i := 13) (q := 25) rfl rfl) ic_1 <|
    V_X8_eod1_25 hr0 hl hg rfl hr (jx (P := P) kk (Eq.trans (if_neg c1) (Eq.trans (if_pos c2) (if_pos c3))))) (fun c3 => V_iconst (tat ok_X8_endOfDuel_0 (i := 11) (q := 21) rfl rfl) ic_0 <|
    V_goto (tat ok_X8_endOfDuel_0 (i := 12) (q := 24) rfl rfl) rfl <|
    V_X8_eod1_25 hr0 hl hg rfl hr (jx (P := P) kk (Eq.trans (if_neg c1) (Eq.trans (if_pos c2) (if_neg c3)))))) (fun c2 => V_X8_eod1_10 hr0 hl hg hr (jx (P := P) kk (Eq.trans (if_neg c1) (if_neg c2)))))
theorem ct_X8_eod1  (I : WI) (L : WL) (r0 : Nat) (a1 : Int64) (a3 : Int32) (a4 : Int32) (hr0 : isX0 r0) (hl : a3.toInt ≤ 1) (hg : ¬ a3 < 1) : Ct x_X8_endOfDuel 6 [.ref r0, .long a1, .int a3, .int a4] ly0 I L R0 0 0 (some (.int (F_X8_eod1 I r0 a1 a3 a4)), ly0, I, L, R0) :=
  Ct_of_V mo_X8_endOfDuel.1 (Nat.le_of_ble_eq_true rfl) (V_X8_eod1 (P := fun x => x = (F_X8_eod1 I r0 a1 a3 a4)) hr0 hl hg (fun _ e => by rw [e]) rfl)
def G_1 (I : WI) (r0 : Nat) (a1 : Int64) (a3 : Int32) (a4 : Int32) : Int32 := if a3 < 1 then G_0 I r0 a1 a3 a4 else F_X8_eod1 I r0 a1 a3 a4
theorem ct_G1 (I : WI) (L : WL) (r0 : Nat) (a1 : Int64) (a3 : Int32) (a4 : Int32) (hr0 : isX0 r0) (hl : a3.toInt ≤ 1) : Ct x_X8_endOfDuel 6 [.ref r0, .long a1, .int a3, .int a4] ly0 I L R0 0 0 (some (.int (G_1 I r0 a1 a3 a4)), ly0, I, L, R0) := by
  unfold G_1
  by_cases hg : a3 < 1
  · rw [if_pos hg]
    exact Ct_of_V mo_X8_endOfDuel.1 (Nat.le_of_ble_eq_true rfl) (V_iload_n (tat ok_X8_endOfDuel_0 (i := 0) (q := 1) rfl rfl) 2 rfl rfl <|
    V_iconst (tat ok_X8_endOfDuel_0 (i := 1) (q := 2) rfl rfl) ic_1 <|
    V_icmp_lt (tat ok_X8_endOfDuel_0 (i := 2) (q := 5) rfl rfl) rfl (fun _ => V_lload_n (tat ok_X8_endOfDuel_0 (i := 6) (q := 11) rfl rfl) 1 rfl rfl <|
    V_cs1 (ct_J13_bitCount_95d88 I L a1) mo_J13_bitCount_95d88 (tat ok_X8_endOfDuel_0 (i := 7) (q := 14) rfl rfl) ml_X8_322 ⟨(Nat.le_of_ble_eq_true rfl), (Nat.le_of_ble_eq_true rfl)⟩ ⟨(Nat.le_of_ble_eq_true rfl), (Nat.le_of_ble_eq_true rfl)⟩ (Nat.le_of_ble_eq_true rfl) <|
    V_iret (tat ok_X8_endOfDuel_0 (i := 8) (q := 15) rfl rfl) _ rfl (nar_int _) rfl ⟨(Nat.le_of_ble_eq_true rfl), (Nat.le_of_ble_eq_true rfl)⟩) (fun c => absurd hg c))
  · rw [if_neg hg]
    exact ct_X8_eod1 I L r0 a1 a3 a4 hr0 hl hg
def F_X8_eod2_10 (I : WI) (r0 : Nat) (a1 : Int64) (a3 : Int32) (a4 : Int32) : Int32 :=
  (F_J13_bitCount_95d88 a1)
theorem V_X8_eod2_10  {I : WI} {L : WL} {r0 : Nat} {a1 : Int64} {a3 : Int32} {a4 : Int32}  {P : Int32 → Prop} {t : Tg} (hr0 : isX0 r0) (hl : a3.toInt ≤ 2) (hg : ¬ a3 < 1) (hr : ∀ v, P v → t = (some (.int v), ly0, I, L, R0)) (kk : P (F_X8_eod2_10 I r0 a1 a3 a4)) : V (zM x_X8_endOfDuel 7 0 0 t) 10 [(0, .ref r0), (1, .long a1), (3, .int a3), (4, .int a4)] [] ly0 I L R0 0 0 :=
  V_lload_n (tat ok_X8_endOfDuel_0 (i := 6) (q := 11) rfl rfl) 1 rfl rfl <|
    V_cs1 (ct_J13_bitCount_95d88 I L a1 ) mo_J13_bitCount_95d88 (tat ok_X8_endOfDuel_0 (i := 7) (q := 14) rfl rfl) ml_X8_322 ⟨(Nat.le_of_ble_eq_true rfl), (Nat.le_of_ble_eq_true rfl)⟩ ⟨(Nat.le_of_ble_eq_true rfl), (Nat.le_of_ble_eq_true rfl)⟩ (Nat.le_of_ble_eq_true rfl) <|
    V_iret (tat ok_X8_endOfDuel_0 (i := 8) (q := 15) rfl rfl) _ rfl (nar_int _) (hr (F_J13_bitCount_95d88 a1) (jx (P := P) kk rfl)) ⟨(Nat.le_of_ble_eq_true rfl), (Nat.le_of_ble_eq_true rfl)⟩
def F_X8_eod2_106_1 (I : WI) (r0 : Nat) (a1 : Int64) (a3 : Int32) (a4 : Int32) (a5 : Int32) (a7 : Int32) (a6 : Int32) : Int32 :=
  a6
theorem V_X8_eod2_106_1  {I : WI} {L : WL} {r0 : Nat} {a1 : Int64} {a3 : Int32} {a4 : Int32} {a5 : Int32} {a7 : Int32} {a6 : Int32} {P : Int32 → Prop} {t : Tg} (hr0 : isX0 r0) (hl : a3.toInt ≤ 2) (hg : ¬ a3 < 1) (hb5 : bz a5 = a5) (hk : ∀ x : Int32, P x → V (zM x_X8_endOfDuel 7 0 0 t) 50 [(0, .ref r0), (1, .long a1), (3, .int a3), (4, .int a4), (5, .int a5), (6, .int x), (7, .int (a7 + 1))] [] ly0 I L R0 0 0) (kk : P (F_X8_eod2_106_1 I r0 a1 a3 a4 a5 a7 a6)) : V (zM x_X8_endOfDuel 7 0 0 t) 106 [(0, .ref r0), (1, .long a1), (3, .int a3), (4, .int a4), (5, .int a5), (6, .int a6), (7, .int a7)] [] ly0 I L R0 0 0 :=
  V_iinc (v := (a7 + 1)) (lv' := [(7, .int (a7 + 1)), (0, .ref r0), (1, .long a1), (3, .int a3), (4, .int a4), (5, .int a5), (6, .int a6)]) (tat ok_X8_endOfDuel_1 (i := 18) (q := 109) rfl rfl) 6 rfl (ia ic_1) (Nat.le_of_ble_eq_true rfl) rfl <|
    V_goto (tat ok_X8_endOfDuel_1 (i := 19) (q := 112) rfl rfl) rfl <|
    V_pick [1, 2, 3, 4, 5, 6, 0] rfl (hk a6 (jx (P := P) kk rfl))
def F_X8_eod2_61_1 (I : WI) (r0 : Nat) (a1 : Int64) (a3 : Int32) (a4 : Int32) (a5 : Int32) (a7 : Int32) (a6 : Int32) : Int32 :=
  (if a4 = 0 then (if (F_X8_isBetter a4 (G_1 I r0 (a1 ^^^ (F_X0_squaresOf I r0 a5 a7)) (a3 - 1) 1) a6) = 0 then (F_X8_eod2_106_1 I r0 a1 a3 a4 a5 a7 a6) else (F_X8_eod2_106_1 I r0 a1 a3 a4 a5 a7 (G_1 I r0 (a1 ^^^ (F_X0_squaresOf I r0 a5 a7)) (a3 - 1) 1))) else (if (F_X8_isBetter a4 (G_1 I r0 (a1 ^^^ (F_X0_squaresOf I r0 a5 a7)) (a3 - 1) 0) a6) = 0 then (F_X8_eod2_106_1 I r0 a1 a3 a4 a5 a7 a6) else (F_X8_eod2_106_1 I r0 a1 a3 a4 a5 a7 (G_1 I r0 (a1 ^^^ (F_X0_squaresOf I r0 a5 a7)) (a3 - 1) 0))))
theorem V_X8_eod2_61_1  {I : WI} {L : WL} {r0 : Nat} {a1 : Int64} {a3 : Int32} {a4 : Int32} {a5 : Int32} {a7 : Int32} {a6 : Int32} {P : Int32 → Prop} {t : Tg} (hr0 : isX0 r0) (hl : a3.toInt ≤ 2) (hg : ¬ a3 < 1) (hb5 : bz a5 = a5) (hk : ∀ x : Int32, P x → V (zM x_X8_endOfDuel 7 0 0 t) 50 [(0, .ref r0), (1, .long a1), (3, .int a3), (4, .int a4), (5, .int a5), (6, .int x), (7, .int (a7 + 1))] [] ly0 I L R0 0 0) (kk : P (F_X8_eod2_61_1 I r0 a1 a3 a4 a5 a7 a6)) : V (zM x_X8_endOfDuel 7 0 0 t) 61 [(0, .ref r0), (1, .long a1), (3, .int a3), (4, .int a4), (5, .int a5), (6, .int a6), (7, .int a7)] [] ly0 I L R0 0 0 :=
  V_aload_n (tat ok_X8_endOfDuel_0 (i := 34) (q := 62) rfl rfl) 0 rfl rfl <|
    V_lload_n (tat ok_X8_endOfDuel_0 (i := 35) (q := 63) rfl rfl) 1 rfl rfl <|
    V_aload_n (tat ok_X8_endOfDuel_0 (i := 36) (q := 64) rfl rfl) 0 rfl rfl <|
    V_iload (tat ok_X8_endOfDuel_0 (i := 37) (q := 66) rfl rfl) 4 rfl <|
    V_iload (tat ok_X8_endOfDuel_0 (i := 38) (q := 68) rfl rfl) 6 rfl <|
    V_cv2 (ct_X0_squaresOf I L r0 a5 a7 hr0) mo_X0_squaresOf (tat ok_X8_endOfDuel_0 (i := 39) (q := 71) rfl rfl) ml_X8_155 hr0 ⟨by decide, _, rfl, rfl⟩ ⟨(Nat.le_of_ble_eq_true rfl), (Nat.le_of_ble_eq_true rfl)⟩ ⟨(Nat.le_of_ble_eq_true rfl), (Nat.le_of_ble_eq_true rfl)⟩ (Nat.le_of_ble_eq_true rfl) <|
    V_lxor (tat ok_X8_endOfDuel_1 (i := 0) (q := 72) rfl rfl) <|
    V_iload_n (tat ok_X8_endOfDuel_1 (i := 1) (q := 73) rfl rfl) 2 rfl rfl <|
    V_iconst (tat ok_X8_endOfDuel_1 (i := 2) (q := 74) rfl rfl) ic_1 <|
    V_isub (tat ok_X8_endOfDuel_1 (i := 3) (q := 75) rfl rfl) <|
    V_iload (tat ok_X8_endOfDuel_1 (i := 4) (q := 77) rfl rfl) 3 rfl <|
    V_if_ne (tat ok_X8_endOfDuel_1 (i := 5) (q := 80) rfl rfl) rfl (fun c5 => V_iconst (tat ok_X8_endOfDuel_1 (i := 8) (q := 85) rfl rfl) ic_0 <|
    V_cs4 (ct_G1 I L r0 (a1 ^^^ (F_X0_squaresOf I r0 a5 a7)) (a3 - 1) 0 hr0 (du hg hl rfl)) mo_X8_endOfDuel (tat ok_X8_endOfDuel_1 (i := 9) (q := 88) rfl rfl) ml_X8_237 ⟨(Nat.le_of_ble_eq_true rfl), (Nat.le_of_ble_eq_true rfl)⟩ ⟨(Nat.le_of_ble_eq_true rfl), (Nat.le_of_ble_eq_true rfl)⟩ (Nat.le_of_ble_eq_true rfl) <|
    V_istore (lv' := [(8, .int (G_1 I r0 (a1 ^^^ (F_X0_squaresOf I r0 a5 a7)) (a3 - 1) 0)), (0, .ref r0), (1, .long a1), (3, .int a3), (4, .int a4), (5, .int a5), (6, .int a6), (7, .int a7)]) (tat ok_X8_endOfDuel_1 (i := 10) (q := 90) rfl rfl) (Nat.le_of_ble_eq_true rfl) rfl <|
    V_iload (tat ok_X8_endOfDuel_1 (i := 11) (q := 92) rfl rfl) 4 rfl <|
    V_iload (tat ok_X8_endOfDuel_1 (i := 12) (q := 94) rfl rfl) 0 rfl <|
    V_iload (tat ok_X8_endOfDuel_1 (i := 13) (q := 96) rfl rfl) 6 rfl <|
    V_cs3 (ct_X8_isBetter I L a4 (G_1 I r0 (a1 ^^^ (F_X0_squaresOf I r0 a5 a7)) (a3 - 1) 0) a6 ) mo_X8_isBetter (tat ok_X8_endOfDuel_1 (i := 14) (q := 99) rfl rfl) ml_X8_241 ⟨(Nat.le_of_ble_eq_true rfl), (Nat.le_of_ble_eq_true rfl)⟩ ⟨(Nat.le_of_ble_eq_true rfl), (Nat.le_of_ble_eq_true rfl)⟩ (Nat.le_of_ble_eq_true rfl) <|
    V_if_eq (tat ok_X8_endOfDuel_1 (i := 15) (q := 102) rfl rfl) rfl (fun c7 => V_pick [1, 2, 3, 4, 5, 6, 7] rfl (V_X8_eod2_106_1 hr0 hl hg hb5 hk (jx (P := P) kk (Eq.trans (if_neg c5) (if_pos c7))))) (fun c7 => V_iload (tat ok_X8_endOfDuel_1 (i := 16) (q := 104) rfl rfl) 0 rfl <|
    V_istore (lv' := [(6, .int (G_1 I r0 (a1 ^^^ (F_X0_squaresOf I r0 a5 a7)) (a3 - 1) 0)), (8, .int (G_1 I r0 (a1 ^^^ (F_X0_squaresOf I r0 a5 a7)) (a3 - 1) 0)), (0, .ref r0), (1, .long a1), (3, .int a3), (4, .int a4), (5, .int a5), (7, .int a7)]) (tat ok_X8_endOfDuel_1 (i := 17) (q := 106) rfl rfl) (Nat.le_of_ble_eq_true rfl) rfl <|
    V_pick [2, 3, 4, 5, 6, 0, 7] rfl (V_X8_eod2_106_1 hr0 hl hg hb5 hk (jx (P := P) kk (Eq.trans (if_neg c5) (if_neg c7)))))) (fun c5 => V_iconst (tat ok_X8_endOfDuel_1 (i := 6) (q := 81) rfl rfl) ic_1 <|
    V_goto (tat ok_X8_endOfDuel_1 (i := 7) (q := 84) rfl rfl) rfl <|
    V_cs4 (ct_G1 I L r0 (a1 ^^^ (F_X0_squaresOf I r0 a5 a7)) (a3 - 1) 1 hr0 (du hg hl rfl)) mo_X8_endOfDuel (tat ok_X8_endOfDuel_1 (i := 9) (q := 88) rfl rfl) ml_X8_237 ⟨(Nat.le_of_ble_eq_true rfl), (Nat.le_of_ble_eq_true rfl)⟩ ⟨(Nat.le_of_ble_eq_true rfl), (Nat.le_of_ble_eq_true rfl)⟩ (Nat.le_of_ble_eq_true rfl) <|
    V_istore (lv' := [(8, .int (G_1 I r0 (a1 ^^^ (F_X0_squaresOf I r0 a5 a7)) (a3 - 1) 1)), (0, .ref r0), (1, .long a1), (3, .int a3), (4, .int a4), (5, .int a5), (6, .int a6), (7, .int a7)]) (tat ok_X8_endOfDuel_1 (i := 10) (q := 90) rfl rfl) (Nat.le_of_ble_eq_true rfl) rfl <|
    V_iload (tat ok_X8_endOfDuel_1 (i := 11) (q := 92) rfl rfl) 4 rfl <|
    V_iload (tat ok_X8_endOfDuel_1 (i := 12) (q := 94) rfl rfl) 0 rfl <|
    V_iload (tat ok_X8_endOfDuel_1 (i := 13) (q := 96) rfl rfl) 6 rfl <|
    V_cs3 (ct_X8_isBetter I L a4 (G_1 I r0 (a1 ^^^ (F_X0_squaresOf I r0 a5 a7)) (a3 - 1) 1) a6 ) mo_X8_isBetter (tat ok_X8_endOfDuel_1 (i := 14) (q := 99) rfl rfl) ml_X8_241 ⟨(Nat.le_of_ble_eq_true rfl), (Nat.le_of_ble_eq_true rfl)⟩ ⟨(Nat.le_of_ble_eq_true rfl), (Nat.le_of_ble_eq_true rfl)⟩ (Nat.le_of_ble_eq_true rfl) <|
    V_if_eq (tat ok_X8_endOfDuel_1 (i := 15) (q := 102) rfl rfl) rfl (fun c6 => V_pick [1, 2, 3, 4, 5, 6, 7] rfl (V_X8_eod2_106_1 hr0 hl hg hb5 hk (jx (P := P) kk (Eq.trans (if_pos c5) (if_pos c6))))) (fun c6 => V_iload (tat ok_X8_endOfDuel_1 (i := 16) (q := 104) rfl rfl) 0 rfl <|
    V_istore (lv' := [(6, .int (G_1 I r0 (a1 ^^^ (F_X0_squaresOf I r0 a5 a7)) (a3 - 1) 1)), (8, .int (G_1 I r0 (a1 ^^^ (F_X0_squaresOf I r0 a5 a7)) (a3 - 1) 1)), (0, .ref r0), (1, .long a1), (3, .int a3), (4, .int a4), (5, .int a5), (7, .int a7)]) (tat ok_X8_endOfDuel_1 (i := 17) (q := 106) rfl rfl) (Nat.le_of_ble_eq_true rfl) rfl <|
    V_pick [2, 3, 4, 5, 6, 0, 7] rfl (V_X8_eod2_106_1 hr0 hl hg hb5 hk (jx (P := P) kk (Eq.trans (if_pos c5) (if_neg c6))))))
def F_X8_eod2_112 (I : WI) (r0 : Nat) (a1 : Int64) (a3 : Int32) (a4 : Int32) (a6 : Int32) : Int32 :=
  a6
theorem V_X8_eod2_112  {I : WI} {L : WL} {r0 : Nat} {a1 : Int64} {a3 : Int32} {a4 : Int32} {a6 : Int32} {P : Int32 → Prop} {t : Tg} (hr0 : isX0 r0) (hl : a3.toInt ≤ 2) (hg : ¬ a3 < 1) (hr : ∀ v, P v → t = (some (.int v), ly0, I, L, R0)) (kk : P (F_X8_eod2_112 I r0 a1 a3 a4 a6)) : V (zM x_X8_endOfDuel 7 0 0 t) 112 [(0, .ref r0), (1, .long a1), (3, .int a3), (4, .int a4), (6, .int a6)] [] ly0 I L R0 0 0 :=
  V_iload (tat ok_X8_endOfDuel_1 (i := 20) (q := 114) rfl rfl) 4 rfl <|
    V_iret (tat ok_X8_endOfDuel_1 (i := 21) (q := 115) rfl rfl) _ rfl (nar_int _) (hr a6 (jx (P := P) kk rfl)) ⟨(Nat.le_of_ble_eq_true rfl), (Nat.le_of_ble_eq_true rfl)⟩
def F_X8_eod2_50 (I : WI) (r0 : Nat) (a1 : Int64) (a3 : Int32) (a4 : Int32) (a5 : Int32) (a6 : Int32) (a7 : Int32) : Int32 :=
  (fun q : Int32 × Int32 => (F_X8_eod2_112 I r0 a1 a3 a4 (p2 q))) (fr0 (fun i x => (F_X8_eod2_61_1 I r0 a1 a3 a4 a5 i x)) (F_X0_linesOf I r0 a5) (fu a7 (F_X0_linesOf I r0 a5)) a7 a6)
theorem V_X8_eod2_50  {I : WI} {L : WL} {r0 : Nat} {a1 : Int64} {a3 : Int32} {a4 : Int32} {a5 : Int32} {a6 : Int32} {a7 : Int32} {P : Int32 → Prop} {t : Tg} (hr0 : isX0 r0) (hl : a3.toInt ≤ 2) (hg : ¬ a3 < 1) (hb5 : bz a5 = a5) (hb7 : bz a7 = a7) (hr : ∀ v, P v → t = (some (.int v), ly0, I, L, R0)) (kk : P (F_X8_eod2_50 I r0 a1 a3 a4 a5 a6 a7)) : V (zM x_X8_endOfDuel 7 0 0 t) 50 [(0, .ref r0), (1, .long a1), (3, .int a3), (4, .int a4), (5, .int a5), (6, .int a6), (7, .int a7)] [] ly0 I L R0 0 0 :=
  V_fr0 (fun i x => (F_X8_eod2_61_1 I r0 a1 a3 a4 a5 i x)) (F_X0_linesOf I r0 a5) (fun i x => V (zM x_X8_endOfDuel 7 0 0 t) 50 [(0, .ref r0), (1, .long a1), (3, .int a3), (4, .int a4), (5, .int a5), (6, .int x), (7, .int i)] [] ly0 I L R0 0 0) (fun i x => P ((F_X8_eod2_112 I r0 a1 a3 a4 x))) (c := a7) (s := a6) (fun i x kx kb => V_iload (tat ok_X8_endOfDuel_0 (i := 29) (q := 52) rfl rfl) 6 rfl <|
    V_aload_n (tat ok_X8_endOfDuel_0 (i := 30) (q := 53) rfl rfl) 0 rfl rfl <|
    V_iload (tat ok_X8_endOfDuel_0 (i := 31) (q := 55) rfl rfl) 4 rfl <|
    V_cv1 (ct_X0_linesOf I L r0 a5 hr0) mo_X0_linesOf (tat ok_X8_endOfDuel_0 (i := 32) (q := 58) rfl rfl) ml_X8_126 hr0 ⟨by decide, _, rfl, rfl⟩ ⟨(Nat.le_of_ble_eq_true rfl), (Nat.le_of_ble_eq_true rfl)⟩ ⟨(Nat.le_of_ble_eq_true rfl), (Nat.le_of_ble_eq_true rfl)⟩ (Nat.le_of_ble_eq_true rfl) <|
    V_icmp_ge (tat ok_X8_endOfDuel_0 (i := 33) (q := 61) rfl rfl) rfl (fun c0 => V_pick [0, 1, 2, 3, 5] rfl (V_X8_eod2_112 hr0 hl hg hr (kx c0))) (fun c0 => V_X8_eod2_61_1 (P := (fun x => (fun i x => V (zM x_X8_endOfDuel 7 0 0 t) 50 [(0, .ref r0), (1, .long a1), (3, .int a3), (4, .int a4), (5, .int a5), (6, .int x), (7, .int i)] [] ly0 I L R0 0 0) (i + 1) x)) hr0 hl hg hb5 (fun _ e => e) (kb c0))) kk
def F_X8_eod2_25 (I : WI) (r0 : Nat) (a1 : Int64) (a3 : Int32) (a4 : Int32) (s0 : Int32) : Int32 :=
  (if a4 = 0 then (F_X8_eod2_50 I r0 a1 a3 a4 s0 (G_1 I r0 a1 (a3 - 1) 1) 0) else (F_X8_eod2_50 I r0 a1 a3 a4 s0 (G_1 I r0 a1 (a3 - 1) 0) 0))
theorem V_X8_eod2_25  {I : WI} {L : WL} {r0 : Nat} {a1 : Int64} {a3 : Int32} {a4 : Int32} {s0 : Int32} {P : Int32 → Prop} {t : Tg} (hr0 : isX0 r0) (hl : a3.toInt ≤ 2) (hg : ¬ a3 < 1) (hs0 : bz s0 = s0) (hr : ∀ v, P v → t = (some (.int v), ly0, I, L, R0)) (kk : P (F_X8_eod2_25 I r0 a1 a3 a4 s0)) : V (zM x_X8_endOfDuel 7 0 0 t) 25 [(0, .ref r0), (1, .long a1), (3, .int a3), (4, .int a4)] [.int s0] ly0 I L R0 0 0 :=
  V_istore (lv' := [(5, .int s0), (0, .ref r0), (1, .long a1), (3, .int a3), (4, .int a4)]) (tat ok_X8_endOfDuel_0 (i := 14) (q := 27) rfl rfl) (Nat.le_of_ble_eq_true rfl) rfl <|
    V_aload_n (tat ok_X8_endOfDuel_0 (i := 15) (q := 28) rfl rfl) 1 rfl rfl <|
    V_lload_n (tat ok_X8_endOfDuel_0 (i := 16) (q := 29) rfl rfl) 2 rfl rfl <|
    V_iload_n (tat ok_X8_endOfDuel_0 (i := 17) (q := 30) rfl rfl) 3 rfl rfl <|
    V_iconst (tat ok_X8_endOfDuel_0 (i := 18) (q := 31) rfl rfl) ic_1 <|
    V_isub (tat ok_X8_endOfDuel_0 (i := 19) (q := 32) rfl rfl) <|
    V_iload (tat ok_X8_endOfDuel_0 (i := 20) (q := 34) rfl rfl) 4 rfl <|
    V_if_ne (tat ok_X8_endOfDuel_0 (i := 21) (q := 37) rfl rfl) rfl (fun c4 => V_iconst (tat ok_X8_endOfDuel_0 (i := 24) (q := 42) rfl rfl) ic_0 <|
    V_cs4 (ct_G1 I L r0 a1 (a3 - 1) 0 hr0 (du hg hl rfl)) mo_X8_endOfDuel (tat ok_X8_endOfDuel_0 (i := 25) (q := 45) rfl rfl) ml_X8_237 ⟨(Nat.le_of_ble_eq_true rfl), (Nat.le_of_ble_eq_true rfl)⟩ ⟨(Nat.le_of_ble_eq_true rfl), (Nat.le_of_ble_eq_true rfl)⟩ (Nat.le_of_ble_eq_true rfl) <|
    V_istore (lv' := [(6, .int (G_1 I r0 a1 (a3 - 1) 0)), (5, .int s0), (0, .ref r0), (1, .long a1), (3, .int a3), (4, .int a4)]) (tat ok_X8_endOfDuel_0 (i := 26) (q := 47) rfl rfl) (Nat.le_of_ble_eq_true rfl) rfl <|
    V_iconst (tat ok_X8_endOfDuel_0 (i := 27) (q := 48) rfl rfl) ic_0 <|
    V_istore (lv' := [(7, .int 0), (6, .int (G_1 I r0 a1 (a3 - 1) 0)), (5, .int s0), (0, .ref r0), (1, .long a1), (3, .int a3), (4, .int a4)]) (tat ok_X8_endOfDuel_0 (i := 28) (q := 50) rfl rfl) (Nat.le_of_ble_eq_true rfl) rfl <|
    V_pick [3, 4, 5, 6, 2, 1, 0] rfl (V_X8_eod2_50 hr0 hl hg hs0 rfl hr (jx (P := P) kk (if_neg c4)))) (fun c4 => V_iconst (tat ok_X8_endOfDuel_0 (i := 22) (q := 38) rfl rfl) ic_1 <|
    V_goto (tat ok_X8_endOfDuel_0 (i := 23) (q := 41) rfl rfl) rfl <|
    V_cs4 (ct_G1 I L r0 a1 (a3 - 1) 1 hr0 (du hg hl rfl)) mo_X8_endOfDuel (tat ok_X8_endOfDuel_0 (i := 25) (q := 45) rfl rfl) ml_X8_237 ⟨(Nat.le_of_ble_eq_true rfl), (Nat.le_of_ble_eq_true rfl)⟩ ⟨(Nat.le_of_ble_eq_true rfl), (Nat.le_of_ble_eq_true rfl)⟩ (Nat.le_of_ble_eq_true rfl) <|
    V_istore (lv' := [(6, .int (G_1 I r0 a1 (a3 - 1) 1)), (5, .int s0), (0, .ref r0), (1, .long a1), (3, .int a3), (4, .int a4)]) (tat ok_X8_endOfDuel_0 (i := 26) (q := 47) rfl rfl) (Nat.le_of_ble_eq_true rfl) rfl <|
    V_iconst (tat ok_X8_endOfDuel_0 (i := 27) (q := 48) rfl rfl) ic_0 <|
    V_istore (lv' := [(7, .int 0), (6, .int (G_1 I r0 a1 (a3 - 1) 1)), (5, .int s0), (0, .ref r0), (1, .long a1), (3, .int a3), (4, .int a4)]) (tat ok_X8_endOfDuel_0 (i := 28) (q := 50) rfl rfl) (Nat.le_of_ble_eq_true rfl) rfl <|
    V_pick [3, 4, 5, 6, 2, 1, 0] rfl (V_X8_eod2_50 hr0 hl hg hs0 rfl hr (jx (P := P) kk (if_pos c4))))
def F_X8_eod2 (I : WI) (r0 : Nat) (a1 : Int64) (a3 : Int32) (a4 : Int32) : Int32 :=
  (if a3 < 1 then (F_X8_eod2_10 I r0 a1 a3 a4) else (if a3 ≤ 4 then (if a4 = 0 then (F_X8_eod2_25 I r0 a1 a3 a4 1) else (F_X8_eod2_25 I r0 a1 a3 a4 0)) else (F_X8_eod2_10 I r0 a1 a3 a4)))
theorem V_X8_eod2  {I : WI} {L : WL} {r0 : Nat} {a1 : Int64} {a3 : Int32} {a4 : Int32}  {P : Int32 → Prop} {t : Tg} (hr0 : isX0 r0) (hl : a3.toInt ≤ 2) (hg : ¬ a3 < 1) (hr : ∀ v, P v → t = (some (.int v), ly0, I, L, R0)) (kk : P (F_X8_eod2 I r0 a1 a3 a4)) : V (zM x_X8_endOfDuel 7 0 0 t) 0 [(0, .ref r0), (1, .long a1), (3, .int a3), (4, .int a4)] [] ly0 I L R0 0 0 :=
  V_iload_n (tat ok_X8_endOfDuel_0 (i := 0) (q := 1) rfl rfl) 2 rfl rfl <|
    V_iconst (tat ok_X8_endOfDuel_0 (i := 1) (q := 2) rfl rfl) ic_1 <|
    V_icmp_lt (tat ok_X8_endOfDuel_0 (i := 2) (q := 5) rfl rfl) rfl (fun c1 => V_X8_eod2_10 hr0 hl hg hr (jx (P := P) kk (if_pos c1))) (fun c1 => V_iload_n (tat ok_X8_endOfDuel_0 (i := 3) (q := 6) rfl rfl) 2 rfl rfl <|
    V_iconst (tat ok_X8_endOfDuel_0 (i := 4) (q := 7) rfl rfl) ic_4 <|
    V_icmp_le (tat ok_X8_endOfDuel_0 (i := 5) (q := 10) rfl rfl) rfl (fun c2 => V_iload (tat ok_X8_endOfDuel_0 (i := 9) (q := 17) rfl rfl) 3 rfl <|
    V_if_eq (tat ok_X8_endOfDuel_0 (i := 10) (q := 20) rfl rfl) rfl (fun c3 => V_iconst (tat ok_X8_endOfDuel_0 (i := 13) (q := 25) rfl rfl) ic_1 <|
    V_X8_eod2_25 hr0 hl hg rfl hr (jx (P := P) kk (Eq.trans (if_neg c1) (Eq.trans (if_pos c2) (if_pos c3))))) (fun c3 => V_iconst (tat ok_X8_endOfDuel_0 (i := 11) (q := 21) rfl rfl) ic_0 <|
    V_goto (tat ok_X8_endOfDuel_0 (i := 12) (q := 24) rfl rfl) rfl <|
    V_X8_eod2_25 hr0 hl hg rfl hr (jx (P := P) kk (Eq.trans (if_neg c1) (Eq.trans (if_pos c2) (if_neg c3)))))) (fun c2 => V_X8_eod2_10 hr0 hl hg hr (jx (P := P) kk (Eq.trans (if_neg c1) (if_neg c2)))))
theorem ct_X8_eod2  (I : WI) (L : WL) (r0 : Nat) (a1 : Int64) (a3 : Int32) (a4 : Int32) (hr0 : isX0 r0) (hl : a3.toInt ≤ 2) (hg : ¬ a3 < 1) : Ct x_X8_endOfDuel 7 [.ref r0, .long a1, .int a3, .int a4] ly0 I L R0 0 0 (some (.int (F_X8_eod2 I r0 a1 a3 a4)), ly0, I, L, R0) :=
  Ct_of_V mo_X8_endOfDuel.1 (Nat.le_of_ble_eq_true rfl) (V_X8_eod2 (P := fun x => x = (F_X8_eod2 I r0 a1 a3 a4)) hr0 hl hg (fun _ e => by rw [e]) rfl)
def G_2 (I : WI) (r0 : Nat) (a1 : Int64) (a3 : Int32) (a4 : Int32) : Int32 := if a3 < 1 then G_0 I r0 a1 a3 a4 else F_X8_eod2 I r0 a1 a3 a4
theorem ct_G2 (I : WI) (L : WL) (r0 : Nat) (a1 : Int64) (a3 : Int32) (a4 : Int32) (hr0 : isX0 r0) (hl : a3.toInt ≤ 2) : Ct x_X8_endOfDuel 7 [.ref r0, .long a1, .int a3, .int a4] ly0 I L R0 0 0 (some (.int (G_2 I r0 a1 a3 a4)), ly0, I, L, R0) := by
  unfold G_2
  by_cases hg : a3 < 1
  · rw [if_pos hg]
    exact Ct_of_V mo_X8_endOfDuel.1 (Nat.le_of_ble_eq_true rfl) (V_iload_n (tat ok_X8_endOfDuel_0 (i := 0) (q := 1) rfl rfl) 2 rfl rfl <|
    V_iconst (tat ok_X8_endOfDuel_0 (i := 1) (q := 2) rfl rfl) ic_1 <|
    V_icmp_lt (tat ok_X8_endOfDuel_0 (i := 2) (q := 5) rfl rfl) rfl (fun _ => V_lload_n (tat ok_X8_endOfDuel_0 (i := 6) (q := 11) rfl rfl) 1 rfl rfl <|
    V_cs1 (ct_J13_bitCount_95d88 I L a1) mo_J13_bitCount_95d88 (tat ok_X8_endOfDuel_0 (i := 7) (q := 14) rfl rfl) ml_X8_322 ⟨(Nat.le_of_ble_eq_true rfl), (Nat.le_of_ble_eq_true rfl)⟩ ⟨(Nat.le_of_ble_eq_true rfl), (Nat.le_of_ble_eq_true rfl)⟩ (Nat.le_of_ble_eq_true rfl) <|
    V_iret (tat ok_X8_endOfDuel_0 (i := 8) (q := 15) rfl rfl) _ rfl (nar_int _) rfl ⟨(Nat.le_of_ble_eq_true rfl), (Nat.le_of_ble_eq_true rfl)⟩) (fun c => absurd hg c))
  · rw [if_neg hg]
    exact ct_X8_eod2 I L r0 a1 a3 a4 hr0 hl hg
def F_X8_eod3_10 (I : WI) (r0 : Nat) (a1 : Int64) (a3 : Int32) (a4 : Int32) : Int32 :=
  (F_J13_bitCount_95d88 a1)
theorem V_X8_eod3_10  {I : WI} {L : WL} {r0 : Nat} {a1 : Int64} {a3 : Int32} {a4 : Int32}  {P : Int32 → Prop} {t : Tg} (hr0 : isX0 r0) (hl : a3.toInt ≤ 3) (hg : ¬ a3 < 1) (hr : ∀ v, P v → t = (some (.int v), ly0, I, L, R0)) (kk : P (F_X8_eod3_10 I r0 a1 a3 a4)) : V (zM x_X8_endOfDuel 8 0 0 t) 10 [(0, .ref r0), (1, .long a1), (3, .int a3), (4, .int a4)] [] ly0 I L R0 0 0 :=
  V_lload_n (tat ok_X8_endOfDuel_0 (i := 6) (q := 11) rfl rfl) 1 rfl rfl <|
    V_cs1 (ct_J13_bitCount_95d88 I L a1 ) mo_J13_bitCount_95d88 (tat ok_X8_endOfDuel_0 (i := 7) (q := 14) rfl rfl) ml_X8_322 ⟨(Nat.le_of_ble_eq_true rfl), (Nat.le_of_ble_eq_true rfl)⟩ ⟨(Nat.le_of_ble_eq_true rfl), (Nat.le_of_ble_eq_true rfl)⟩ (Nat.le_of_ble_eq_true rfl) <|
    V_iret (tat ok_X8_endOfDuel_0 (i := 8) (q := 15) rfl rfl) _ rfl (nar_int _) (hr (F_J13_bitCount_95d88 a1) (jx (P := P) kk rfl)) ⟨(Nat.le_of_ble_eq_true rfl), (Nat.le_of_ble_eq_true rfl)⟩
def F_X8_eod3_106_1 (I : WI) (r0 : Nat) (a1 : Int64) (a3 : Int32) (a4 : Int32) (a5 : Int32) (a7 : Int32) (a6 : Int32) : Int32 :=
  a6
theorem V_X8_eod3_106_1  {I : WI} {L : WL} {r0 : Nat} {a1 : Int64} {a3 : Int32} {a4 : Int32} {a5 : Int32} {a7 : Int32} {a6 : Int32} {P : Int32 → Prop} {t : Tg} (hr0 : isX0 r0) (hl : a3.toInt ≤ 3) (hg : ¬ a3 < 1) (hb5 : bz a5 = a5) (hk : ∀ x : Int32, P x → V (zM x_X8_endOfDuel 8 0 0 t) 50 [(0, .ref r0), (1, .long a1), (3, .int a3), (4, .int a4), (5, .int a5), (6, .int x), (7, .int (a7 + 1))] [] ly0 I L R0 0 0) (kk : P (F_X8_eod3_106_1 I r0 a1 a3 a4 a5 a7 a6)) : V (zM x_X8_endOfDuel 8 0 0 t) 106 [(0, .ref r0), (1, .long a1), (3, .int a3), (4, .int a4), (5, .int a5), (6, .int a6), (7, .int a7)] [] ly0 I L R0 0 0 :=
  V_iinc (v := (a7 + 1)) (lv' := [(7, .int (a7 + 1)), (0, .ref r0), (1, .long a1), (3, .int a3), (4, .int a4), (5, .int a5), (6, .int a6)]) (tat ok_X8_endOfDuel_1 (i := 18) (q := 109) rfl rfl) 6 rfl (ia ic_1) (Nat.le_of_ble_eq_true rfl) rfl <|
    V_goto (tat ok_X8_endOfDuel_1 (i := 19) (q := 112) rfl rfl) rfl <|
    V_pick [1, 2, 3, 4, 5, 6, 0] rfl (hk a6 (jx (P := P) kk rfl))
def F_X8_eod3_61_1 (I : WI) (r0 : Nat) (a1 : Int64) (a3 : Int32) (a4 : Int32) (a5 : Int32) (a7 : Int32) (a6 : Int32) : Int32 :=
  (if a4 = 0 then (if (F_X8_isBetter a4 (G_2 I r0 (a1 ^^^ (F_X0_squaresOf I r0 a5 a7)) (a3 - 1) 1) a6) = 0 then (F_X8_eod3_106_1 I r0 a1 a3 a4 a5 a7 a6) else (F_X8_eod3_106_1 I r0 a1 a3 a4 a5 a7 (G_2 I r0 (a1 ^^^ (F_X0_squaresOf I r0 a5 a7)) (a3 - 1) 1))) else (if (F_X8_isBetter a4 (G_2 I r0 (a1 ^^^ (F_X0_squaresOf I r0 a5 a7)) (a3 - 1) 0) a6) = 0 then (F_X8_eod3_106_1 I r0 a1 a3 a4 a5 a7 a6) else (F_X8_eod3_106_1 I r0 a1 a3 a4 a5 a7 (G_2 I r0 (a1 ^^^ (F_X0_squaresOf I r0 a5 a7)) (a3 - 1) 0))))
theorem V_X8_eod3_61_1  {I : WI} {L : WL} {r0 : Nat} {a1 : Int64} {a3 : Int32} {a4 : Int32} {a5 : Int32} {a7 : Int32} {a6 : Int32} {P : Int32 → Prop} {t : Tg} (hr0 : isX0 r0) (hl : a3.toInt ≤ 3) (hg : ¬ a3 < 1) (hb5 : bz a5 = a5) (hk : ∀ x : Int32, P x → V (zM x_X8_endOfDuel 8 0 0 t) 50 [(0, .ref r0), (1, .long a1), (3, .int a3), (4, .int a4), (5, .int a5), (6, .int x), (7, .int (a7 + 1))] [] ly0 I L R0 0 0) (kk : P (F_X8_eod3_61_1 I r0 a1 a3 a4 a5 a7 a6)) : V (zM x_X8_endOfDuel 8 0 0 t) 61 [(0, .ref r0), (1, .long a1), (3, .int a3), (4, .int a4), (5, .int a5), (6, .int a6), (7, .int a7)] [] ly0 I L R0 0 0 :=
  V_aload_n (tat ok_X8_endOfDuel_0 (i := 34) (q := 62) rfl rfl) 0 rfl rfl <|
    V_lload_n (tat ok_X8_endOfDuel_0 (i := 35) (q := 63) rfl rfl) 1 rfl rfl <|
    V_aload_n (tat ok_X8_endOfDuel_0 (i := 36) (q := 64) rfl rfl) 0 rfl rfl <|
    V_iload (tat ok_X8_endOfDuel_0 (i := 37) (q := 66) rfl rfl) 4 rfl <|
    V_iload (tat ok_X8_endOfDuel_0 (i := 38) (q := 68) rfl rfl) 6 rfl <|
    V_cv2 (ct_X0_squaresOf I L r0 a5 a7 hr0) mo_X0_squaresOf (tat ok_X8_endOfDuel_0 (i := 39) (q := 71) rfl rfl) ml_X8_155 hr0 ⟨by decide, _, rfl, rfl⟩ ⟨(Nat.le_of_ble_eq_true rfl), (Nat.le_of_ble_eq_true rfl)⟩ ⟨(Nat.le_of_ble_eq_true rfl), (Nat.le_of_ble_eq_true rfl)⟩ (Nat.le_of_ble_eq_true rfl) <|
    V_lxor (tat ok_X8_endOfDuel_1 (i := 0) (q := 72) rfl rfl) <|
    V_iload_n (tat ok_X8_endOfDuel_1 (i := 1) (q := 73) rfl rfl) 2 rfl rfl <|
    V_iconst (tat ok_X8_endOfDuel_1 (i := 2) (q := 74) rfl rfl) ic_1 <|
    V_isub (tat ok_X8_endOfDuel_1 (i := 3) (q := 75) rfl rfl) <|
    V_iload (tat ok_X8_endOfDuel_1 (i := 4) (q := 77) rfl rfl) 3 rfl <|
    V_if_ne (tat ok_X8_endOfDuel_1 (i := 5) (q := 80) rfl rfl) rfl (fun c5 => V_iconst (tat ok_X8_endOfDuel_1 (i := 8) (q := 85) rfl rfl) ic_0 <|
    V_cs4 (ct_G2 I L r0 (a1 ^^^ (F_X0_squaresOf I r0 a5 a7)) (a3 - 1) 0 hr0 (du hg hl rfl)) mo_X8_endOfDuel (tat ok_X8_endOfDuel_1 (i := 9) (q := 88) rfl rfl) ml_X8_237 ⟨(Nat.le_of_ble_eq_true rfl), (Nat.le_of_ble_eq_true rfl)⟩ ⟨(Nat.le_of_ble_eq_true rfl), (Nat.le_of_ble_eq_true rfl)⟩ (Nat.le_of_ble_eq_true rfl) <|
    V_istore (lv' := [(8, .int (G_2 I r0 (a1 ^^^ (F_X0_squaresOf I r0 a5 a7)) (a3 - 1) 0)), (0, .ref r0), (1, .long a1), (3, .int a3), (4, .int a4), (5, .int a5), (6, .int a6), (7, .int a7)]) (tat ok_X8_endOfDuel_1 (i := 10) (q := 90) rfl rfl) (Nat.le_of_ble_eq_true rfl) rfl <|
    V_iload (tat ok_X8_endOfDuel_1 (i := 11) (q := 92) rfl rfl) 4 rfl <|
    V_iload (tat ok_X8_endOfDuel_1 (i := 12) (q := 94) rfl rfl) 0 rfl <|
    V_iload (tat ok_X8_endOfDuel_1 (i := 13) (q := 96) rfl rfl) 6 rfl <|
    V_cs3 (ct_X8_isBetter I L a4 (G_2 I r0 (a1 ^^^ (F_X0_squaresOf I r0 a5 a7)) (a3 - 1) 0) a6 ) mo_X8_isBetter (tat ok_X8_endOfDuel_1 (i := 14) (q := 99) rfl rfl) ml_X8_241 ⟨(Nat.le_of_ble_eq_true rfl), (Nat.le_of_ble_eq_true rfl)⟩ ⟨(Nat.le_of_ble_eq_true rfl), (Nat.le_of_ble_eq_true rfl)⟩ (Nat.le_of_ble_eq_true rfl) <|
    V_if_eq (tat ok_X8_endOfDuel_1 (i := 15) (q := 102) rfl rfl) rfl (fun c7 => V_pick [1, 2, 3, 4, 5, 6, 7] rfl (V_X8_eod3_106_1 hr0 hl hg hb5 hk (jx (P := P) kk (Eq.trans (if_neg c5) (if_pos c7))))) (fun c7 => V_iload (tat ok_X8_endOfDuel_1 (i := 16) (q := 104) rfl rfl) 0 rfl <|
    V_istore (lv' := [(6, .int (G_2 I r0 (a1 ^^^ (F_X0_squaresOf I r0 a5 a7)) (a3 - 1) 0)), (8, .int (G_2 I r0 (a1 ^^^ (F_X0_squaresOf I r0 a5 a7)) (a3 - 1) 0)), (0, .ref r0), (1, .long a1), (3, .int a3), (4, .int a4), (5, .int a5), (7, .int a7)]) (tat ok_X8_endOfDuel_1 (i := 17) (q := 106) rfl rfl) (Nat.le_of_ble_eq_true rfl) rfl <|
    V_pick [2, 3, 4, 5, 6, 0, 7] rfl (V_X8_eod3_106_1 hr0 hl hg hb5 hk (jx (P := P) kk (Eq.trans (if_neg c5) (if_neg c7)))))) (fun c5 => V_iconst (tat ok_X8_endOfDuel_1 (i := 6) (q := 81) rfl rfl) ic_1 <|
    V_goto (tat ok_X8_endOfDuel_1 (i := 7) (q := 84) rfl rfl) rfl <|
    V_cs4 (ct_G2 I L r0 (a1 ^^^ (F_X0_squaresOf I r0 a5 a7)) (a3 - 1) 1 hr0 (du hg hl rfl)) mo_X8_endOfDuel (tat ok_X8_endOfDuel_1 (i := 9) (q := 88) rfl rfl) ml_X8_237 ⟨(Nat.le_of_ble_eq_true rfl), (Nat.le_of_ble_eq_true rfl)⟩ ⟨(Nat.le_of_ble_eq_true rfl), (Nat.le_of_ble_eq_true rfl)⟩ (Nat.le_of_ble_eq_true rfl) <|
    V_istore (lv' := [(8, .int (G_2 I r0 (a1 ^^^ (F_X0_squaresOf I r0 a5 a7)) (a3 - 1) 1)), (0, .ref r0), (1, .long a1), (3, .int a3), (4, .int a4), (5, .int a5), (6, .int a6), (7, .int a7)]) (tat ok_X8_endOfDuel_1 (i := 10) (q := 90) rfl rfl) (Nat.le_of_ble_eq_true rfl) rfl <|
    V_iload (tat ok_X8_endOfDuel_1 (i := 11) (q := 92) rfl rfl) 4 rfl <|
    V_iload (tat ok_X8_endOfDuel_1 (i := 12) (q := 94) rfl rfl) 0 rfl <|
    V_iload (tat ok_X8_endOfDuel_1 (i := 13) (q := 96) rfl rfl) 6 rfl <|
    V_cs3 (ct_X8_isBetter I L a4 (G_2 I r0 (a1 ^^^ (F_X0_squaresOf I r0 a5 a7)) (a3 - 1) 1) a6 ) mo_X8_isBetter (tat ok_X8_endOfDuel_1 (i := 14) (q := 99) rfl rfl) ml_X8_241 ⟨(Nat.le_of_ble_eq_true rfl), (Nat.le_of_ble_eq_true rfl)⟩ ⟨(Nat.le_of_ble_eq_true rfl), (Nat.le_of_ble_eq_true rfl)⟩ (Nat.le_of_ble_eq_true rfl) <|
    V_if_eq (tat ok_X8_endOfDuel_1 (i := 15) (q := 102) rfl rfl) rfl (fun c6 => V_pick [1, 2, 3, 4, 5, 6, 7] rfl (V_X8_eod3_106_1 hr0 hl hg hb5 hk (jx (P := P) kk (Eq.trans (if_pos c5) (if_pos c6))))) (fun c6 => V_iload (tat ok_X8_endOfDuel_1 (i := 16) (q := 104) rfl rfl) 0 rfl <|
    V_istore (lv' := [(6, .int (G_2 I r0 (a1 ^^^ (F_X0_squaresOf I r0 a5 a7)) (a3 - 1) 1)), (8, .int (G_2 I r0 (a1 ^^^ (F_X0_squaresOf I r0 a5 a7)) (a3 - 1) 1)), (0, .ref r0), (1, .long a1), (3, .int a3), (4, .int a4), (5, .int a5), (7, .int a7)]) (tat ok_X8_endOfDuel_1 (i := 17) (q := 106) rfl rfl) (Nat.le_of_ble_eq_true rfl) rfl <|
    V_pick [2, 3, 4, 5, 6, 0, 7] rfl (V_X8_eod3_106_1 hr0 hl hg hb5 hk (jx (P := P) kk (Eq.trans (if_pos c5) (if_neg c6))))))
def F_X8_eod3_112 (I : WI) (r0 : Nat) (a1 : Int64) (a3 : Int32) (a4 : Int32) (a6 : Int32) : Int32 :=
  a6
theorem V_X8_eod3_112  {I : WI} {L : WL} {r0 : Nat} {a1 : Int64} {a3 : Int32} {a4 : Int32} {a6 : Int32} {P : Int32 → Prop} {t : Tg} (hr0 : isX0 r0) (hl : a3.toInt ≤ 3) (hg : ¬ a3 < 1) (hr : ∀ v, P v → t = (some (.int v), ly0, I, L, R0)) (kk : P (F_X8_eod3_112 I r0 a1 a3 a4 a6)) : V (zM x_X8_endOfDuel 8 0 0 t) 112 [(0, .ref r0), (1, .long a1), (3, .int a3), (4, .int a4), (6, .int a6)] [] ly0 I L R0 0 0 :=
  V_iload (tat ok_X8_endOfDuel_1 (i := 20) (q := 114) rfl rfl) 4 rfl <|
    V_iret (tat ok_X8_endOfDuel_1 (i := 21) (q := 115) rfl rfl) _ rfl (nar_int _) (hr a6 (jx (P := P) kk rfl)) ⟨(Nat.le_of_ble_eq_true rfl), (Nat.le_of_ble_eq_true rfl)⟩
def F_X8_eod3_50 (I : WI) (r0 : Nat) (a1 : Int64) (a3 : Int32) (a4 : Int32) (a5 : Int32) (a6 : Int32) (a7 : Int32) : Int32 :=
  (fun q : Int32 × Int32 => (F_X8_eod3_112 I r0 a1 a3 a4 (p2 q))) (fr0 (fun i x => (F_X8_eod3_61_1 I r0 a1 a3 a4 a5 i x)) (F_X0_linesOf I r0 a5) (fu a7 (F_X0_linesOf I r0 a5)) a7 a6)
theorem V_X8_eod3_50  {I : WI} {L : WL} {r0 : Nat} {a1 : Int64} {a3 : Int32} {a4 : Int32} {a5 : Int32} {a6 : Int32} {a7 : Int32} {P : Int32 → Prop} {t : Tg} (hr0 : isX0 r0) (hl : a3.toInt ≤ 3) (hg : ¬ a3 < 1) (hb5 : bz a5 = a5) (hb7 : bz a7 = a7) (hr : ∀ v, P v → t = (some (.int v), ly0, I, L, R0)) (kk : P (F_X8_eod3_50 I r0 a1 a3 a4 a5 a6 a7)) : V (zM x_X8_endOfDuel 8 0 0 t) 50 [(0, .ref r0), (1, .long a1), (3, .int a3), (4, .int a4), (5, .int a5), (6, .int a6), (7, .int a7)] [] ly0 I L R0 0 0 :=
  V_fr0 (fun i x => (F_X8_eod3_61_1 I r0 a1 a3 a4 a5 i x)) (F_X0_linesOf I r0 a5) (fun i x => V (zM x_X8_endOfDuel 8 0 0 t) 50 [(0, .ref r0), (1, .long a1), (3, .int a3), (4, .int a4), (5, .int a5), (6, .int x), (7, .int i)] [] ly0 I L R0 0 0) (fun i x => P ((F_X8_eod3_112 I r0 a1 a3 a4 x))) (c := a7) (s := a6) (fun i x kx kb => V_iload (tat ok_X8_endOfDuel_0 (i := 29) (q := 52) rfl rfl) 6 rfl <|
    V_aload_n (tat ok_X8_endOfDuel_0 (i := 30) (q := 53) rfl rfl) 0 rfl rfl <|
    V_iload (tat ok_X8_endOfDuel_0 (i := 31) (q := 55) rfl rfl) 4 rfl <|
    V_cv1 (ct_X0_linesOf I L r0 a5 hr0) mo_X0_linesOf (tat ok_X8_endOfDuel_0 (i := 32) (q := 58) rfl rfl) ml_X8_126 hr0 ⟨by decide, _, rfl, rfl⟩ ⟨(Nat.le_of_ble_eq_true rfl), (Nat.le_of_ble_eq_true rfl)⟩ ⟨(Nat.le_of_ble_eq_true rfl), (Nat.le_of_ble_eq_true rfl)⟩ (Nat.le_of_ble_eq_true rfl) <|
    V_icmp_ge (tat ok_X8_endOfDuel_0 (i := 33) (q := 61) rfl rfl) rfl (fun c0 => V_pick [0, 1, 2, 3, 5] rfl (V_X8_eod3_112 hr0 hl hg hr (kx c0))) (fun c0 => V_X8_eod3_61_1 (P := (fun x => (fun i x => V (zM x_X8_endOfDuel 8 0 0 t) 50 [(0, .ref r0), (1, .long a1), (3, .int a3), (4, .int a4), (5, .int a5), (6, .int x), (7, .int i)] [] ly0 I L R0 0 0) (i + 1) x)) hr0 hl hg hb5 (fun _ e => e) (kb c0))) kk
def F_X8_eod3_25 (I : WI) (r0 : Nat) (a1 : Int64) (a3 : Int32) (a4 : Int32) (s0 : Int32) : Int32 :=
  (if a4 = 0 then (F_X8_eod3_50 I r0 a1 a3 a4 s0 (G_2 I r0 a1 (a3 - 1) 1) 0) else (F_X8_eod3_50 I r0 a1 a3 a4 s0 (G_2 I r0 a1 (a3 - 1) 0) 0))
theorem V_X8_eod3_25  {I : WI} {L : WL} {r0 : Nat} {a1 : Int64} {a3 : Int32} {a4 : Int32} {s0 : Int32} {P : Int32 → Prop} {t : Tg} (hr0 : isX0 r0) (hl : a3.toInt ≤ 3) (hg : ¬ a3 < 1) (hs0 : bz s0 = s0) (hr : ∀ v, P v → t = (some (.int v), ly0, I, L, R0)) (kk : P (F_X8_eod3_25 I r0 a1 a3 a4 s0)) : V (zM x_X8_endOfDuel 8 0 0 t) 25 [(0, .ref r0), (1, .long a1), (3, .int a3), (4, .int a4)] [.int s0] ly0 I L R0 0 0 :=
  V_istore (lv' := [(5, .int s0), (0, .ref r0), (1, .long a1), (3, .int a3), (4, .int a4)]) (tat ok_X8_endOfDuel_0 (i := 14) (q := 27) rfl rfl) (Nat.le_of_ble_eq_true rfl) rfl <|
    V_aload_n (tat ok_X8_endOfDuel_0 (i := 15) (q := 28) rfl rfl) 1 rfl rfl <|
    V_lload_n (tat ok_X8_endOfDuel_0 (i := 16) (q := 29) rfl rfl) 2 rfl rfl <|
    V_iload_n (tat ok_X8_endOfDuel_0 (i := 17) (q := 30) rfl rfl) 3 rfl rfl <|
    V_iconst (tat ok_X8_endOfDuel_0 (i := 18) (q := 31) rfl rfl) ic_1 <|
    V_isub (tat ok_X8_endOfDuel_0 (i := 19) (q := 32) rfl rfl) <|
    V_iload (tat ok_X8_endOfDuel_0 (i := 20) (q := 34) rfl rfl) 4 rfl <|
    V_if_ne (tat ok_X8_endOfDuel_0 (i := 21) (q := 37) rfl rfl) rfl (fun c4 => V_iconst (tat ok_X8_endOfDuel_0 (i := 24) (q := 42) rfl rfl) ic_0 <|
    V_cs4 (ct_G2 I L r0 a1 (a3 - 1) 0 hr0 (du hg hl rfl)) mo_X8_endOfDuel (tat ok_X8_endOfDuel_0 (i := 25) (q := 45) rfl rfl) ml_X8_237 ⟨(Nat.le_of_ble_eq_true rfl), (Nat.le_of_ble_eq_true rfl)⟩ ⟨(Nat.le_of_ble_eq_true rfl), (Nat.le_of_ble_eq_true rfl)⟩ (Nat.le_of_ble_eq_true rfl) <|
    V_istore (lv' := [(6, .int (G_2 I r0 a1 (a3 - 1) 0)), (5, .int s0), (0, .ref r0), (1, .long a1), (3, .int a3), (4, .int a4)]) (tat ok_X8_endOfDuel_0 (i := 26) (q := 47) rfl rfl) (Nat.le_of_ble_eq_true rfl) rfl <|
    V_iconst (tat ok_X8_endOfDuel_0 (i := 27) (q := 48) rfl rfl) ic_0 <|
    V_istore (lv' := [(7, .int 0), (6, .int (G_2 I r0 a1 (a3 - 1) 0)), (5, .int s0), (0, .ref r0), (1, .long a1), (3, .int a3), (4, .int a4)]) (tat ok_X8_endOfDuel_0 (i := 28) (q := 50) rfl rfl) (Nat.le_of_ble_eq_true rfl) rfl <|
    V_pick [3, 4, 5, 6, 2, 1, 0] rfl (V_X8_eod3_50 hr0 hl hg hs0 rfl hr (jx (P := P) kk (if_neg c4)))) (fun c4 => V_iconst (tat ok_X8_endOfDuel_0 (i := 22) (q := 38) rfl rfl) ic_1 <|
    V_goto (tat ok_X8_endOfDuel_0 (i := 23) (q := 41) rfl rfl) rfl <|
    V_cs4 (ct_G2 I L r0 a1 (a3 - 1) 1 hr0 (du hg hl rfl)) mo_X8_endOfDuel (tat ok_X8_endOfDuel_0 (i := 25) (q := 45) rfl rfl) ml_X8_237 ⟨(Nat.le_of_ble_eq_true rfl), (Nat.le_of_ble_eq_true rfl)⟩ ⟨(Nat.le_of_ble_eq_true rfl), (Nat.le_of_ble_eq_true rfl)⟩ (Nat.le_of_ble_eq_true rfl) <|
    V_istore (lv' := [(6, .int (G_2 I r0 a1 (a3 - 1) 1)), (5, .int s0), (0, .ref r0), (1, .long a1), (3, .int a3), (4, .int a4)]) (tat ok_X8_endOfDuel_0 (i := 26) (q := 47) rfl rfl) (Nat.le_of_ble_eq_true rfl) rfl <|
    V_iconst (tat ok_X8_endOfDuel_0 (i := 27) (q := 48) rfl rfl) ic_0 <|
    V_istore (lv' := [(7, .int 0), (6, .int (G_2 I r0 a1 (a3 - 1) 1)), (5, .int s0), (0, .ref r0), (1, .long a1), (3, .int a3), (4, .int a4)]) (tat ok_X8_endOfDuel_0 (i := 28) (q := 50) rfl rfl) (Nat.le_of_ble_eq_true rfl) rfl <|
    V_pick [3, 4, 5, 6, 2, 1, 0] rfl (V_X8_eod3_50 hr0 hl hg hs0 rfl hr (jx (P := P) kk (if_pos c4))))
def F_X8_eod3 (I : WI) (r0 : Nat) (a1 : Int64) (a3 : Int32) (a4 : Int32) : Int32 :=
  (if a3 < 1 then (F_X8_eod3_10 I r0 a1 a3 a4) else (if a3 ≤ 4 then (if a4 = 0 then (F_X8_eod3_25 I r0 a1 a3 a4 1) else (F_X8_eod3_25 I r0 a1 a3 a4 0)) else (F_X8_eod3_10 I r0 a1 a3 a4)))
theorem V_X8_eod3  {I : WI} {L : WL} {r0 : Nat} {a1 : Int64} {a3 : Int32} {a4 : Int32}  {P : Int32 → Prop} {t : Tg} (hr0 : isX0 r0) (hl : a3.toInt ≤ 3) (hg : ¬ a3 < 1) (hr : ∀ v, P v → t = (some (.int v), ly0, I, L, R0)) (kk : P (F_X8_eod3 I r0 a1 a3 a4)) : V (zM x_X8_endOfDuel 8 0 0 t) 0 [(0, .ref r0), (1, .long a1), (3, .int a3), (4, .int a4)] [] ly0 I L R0 0 0 :=
  V_iload_n (tat ok_X8_endOfDuel_0 (i := 0) (q := 1) rfl rfl) 2 rfl rfl <|
    V_iconst (tat ok_X8_endOfDuel_0 (i := 1) (q := 2) rfl rfl) ic_1 <|
    V_icmp_lt (tat ok_X8_endOfDuel_0 (i := 2) (q := 5) rfl rfl) rfl (fun c1 => V_X8_eod3_10 hr0 hl hg hr (jx (P := P) kk (if_pos c1))) (fun c1 => V_iload_n (tat ok_X8_endOfDuel_0 (i := 3) (q := 6) rfl rfl) 2 rfl rfl <|
    V_iconst (tat ok_X8_endOfDuel_0 (i := 4) (q := 7) rfl rfl) ic_4 <|
    V_icmp_le (tat ok_X8_endOfDuel_0 (i := 5) (q := 10) rfl rfl) rfl (fun c2 => V_iload (tat ok_X8_endOfDuel_0 (i := 9) (q := 17) rfl rfl) 3 rfl <|
    V_if_eq (tat ok_X8_endOfDuel_0 (i := 10) (q := 20) rfl rfl) rfl (fun c3 => V_iconst (tat ok_X8_endOfDuel_0 (i := 13) (q := 25) rfl rfl) ic_1 <|
    V_X8_eod3_25 hr0 hl hg rfl hr (jx (P := P) kk (Eq.trans (if_neg c1) (Eq.trans (if_pos c2) (if_pos c3))))) (fun c3 => V_iconst (tat ok_X8_endOfDuel_0 (i := 11) (q := 21) rfl rfl) ic_0 <|
    V_goto (tat ok_X8_endOfDuel_0 (i := 12) (q := 24) rfl rfl) rfl <|
    V_X8_eod3_25 hr0 hl hg rfl hr (jx (P := P) kk (Eq.trans (if_neg c1) (Eq.trans (if_pos c2) (if_neg c3)))))) (fun c2 => V_X8_eod3_10 hr0 hl hg hr (jx (P := P) kk (Eq.trans (if_neg c1) (if_neg c2)))))
theorem ct_X8_eod3  (I : WI) (L : WL) (r0 : Nat) (a1 : Int64) (a3 : Int32) (a4 : Int32) (hr0 : isX0 r0) (hl : a3.toInt ≤ 3) (hg : ¬ a3 < 1) : Ct x_X8_endOfDuel 8 [.ref r0, .long a1, .int a3, .int a4] ly0 I L R0 0 0 (some (.int (F_X8_eod3 I r0 a1 a3 a4)), ly0, I, L, R0) :=
  Ct_of_V mo_X8_endOfDuel.1 (Nat.le_of_ble_eq_true rfl) (V_X8_eod3 (P := fun x => x = (F_X8_eod3 I r0 a1 a3 a4)) hr0 hl hg (fun _ e => by rw [e]) rfl)
def G_3 (I : WI) (r0 : Nat) (a1 : Int64) (a3 : Int32) (a4 : Int32) : Int32 := if a3 < 1 then G_0 I r0 a1 a3 a4 else F_X8_eod3 I r0 a1 a3 a4
theorem ct_G3 (I : WI) (L : WL) (r0 : Nat) (a1 : Int64) (a3 : Int32) (a4 : Int32) (hr0 : isX0 r0) (hl : a3.toInt ≤ 3) : Ct x_X8_endOfDuel 8 [.ref r0, .long a1, .int a3, .int a4] ly0 I L R0 0 0 (some (.int (G_3 I r0 a1 a3 a4)), ly0, I, L, R0) := by
  unfold G_3
  by_cases hg : a3 < 1
  · rw [if_pos hg]
    exact Ct_of_V mo_X8_endOfDuel.1 (Nat.le_of_ble_eq_true rfl) (V_iload_n (tat ok_X8_endOfDuel_0 (i := 0) (q := 1) rfl rfl) 2 rfl rfl <|
    V_iconst (tat ok_X8_endOfDuel_0 (i := 1) (q := 2) rfl rfl) ic_1 <|
    V_icmp_lt (tat ok_X8_endOfDuel_0 (i := 2) (q := 5) rfl rfl) rfl (fun _ => V_lload_n (tat ok_X8_endOfDuel_0 (i := 6) (q := 11) rfl rfl) 1 rfl rfl <|
    V_cs1 (ct_J13_bitCount_95d88 I L a1) mo_J13_bitCount_95d88 (tat ok_X8_endOfDuel_0 (i := 7) (q := 14) rfl rfl) ml_X8_322 ⟨(Nat.le_of_ble_eq_true rfl), (Nat.le_of_ble_eq_true rfl)⟩ ⟨(Nat.le_of_ble_eq_true rfl), (Nat.le_of_ble_eq_true rfl)⟩ (Nat.le_of_ble_eq_true rfl) <|
    V_iret (tat ok_X8_endOfDuel_0 (i := 8) (q := 15) rfl rfl) _ rfl (nar_int _) rfl ⟨(Nat.le_of_ble_eq_true rfl), (Nat.le_of_ble_eq_true rfl)⟩) (fun c => absurd hg c))
  · rw [if_neg hg]
    exact ct_X8_eod3 I L r0 a1 a3 a4 hr0 hl hg
def F_X8_duel_19 (I : WI) (L : WL) (a1 : Int32) (a2 : Int32) (a3 : Int32) : Option Int32 :=
  some (-1)
theorem V_X8_duel_19  {I : WI} {L : WL} {a1 : Int32} {a2 : Int32} {a3 : Int32}  {P : Int32 → Prop} {t : Tg} (hr : ∀ v, P v → t = (some (.int v), ly0, I, L, R0)) : oP P (F_X8_duel_19 I L a1 a2 a3) → V (zM x_X8_duel 9 0 0 t) 19 [(0, .ref 0), (1, .int a1), (2, .int a2), (3, .int a3)] [] ly0 I L R0 0 0 :=
  fun _ =>
  have kq : (oP P (F_X8_duel_19 I L a1 a2 a3)) ∧ True := ⟨by assumption, trivial⟩
  V_iconst (tat ok_X8_duel_0 (i := 11) (q := 20) rfl rfl) ic_m1 <|
    V_iret (tat ok_X8_duel_0 (i := 12) (q := 21) rfl rfl) _ rfl (nar_int _) (hr (-1) (jq (P := oP P) kq rfl)) ⟨(Nat.le_of_ble_eq_true rfl), (Nat.le_of_ble_eq_true rfl)⟩
def F_X8_duel_122_1 (I : WI) (L : WL) (a1 : Int32) (a2 : Int32) (a3 : Int32) (a4 : Int32) (a7 : Int32) (a5 : Int32) (a6 : Int32) : Option (Int32 × Int32) :=
  some (a5, a6)
theorem V_X8_duel_122_1  {I : WI} {L : WL} {a1 : Int32} {a2 : Int32} {a3 : Int32} {a4 : Int32} {a7 : Int32} {a5 : Int32} {a6 : Int32} {P : (Int32 × Int32) → Prop} {t : Tg} (hb4 : bz a4 = a4) (hk : ∀ x : (Int32 × Int32), P x → V (zM x_X8_duel 9 0 0 t) 42 [(0, .ref 0), (1, .int a1), (2, .int a2), (3, .int a3), (4, .int a4), (5, .int (p1 x)), (6, .int (p2 x)), (7, .int (a7 + 1))] [] ly0 I L R0 0 0) : oP P (F_X8_duel_122_1 I L a1 a2 a3 a4 a7 a5 a6) → V (zM x_X8_duel 9 0 0 t) 122 [(0, .ref 0), (1, .int a1), (2, .int a2), (3, .int a3), (4, .int a4), (5, .int a5), (6, .int a6), (7, .int a7)] [] ly0 I L R0 0 0 :=
  fun _ =>
  have kq : (oP P (F_X8_duel_122_1 I L a1 a2 a3 a4 a7 a5 a6)) ∧ True := ⟨by assumption, trivial⟩
  V_iinc (v := (a7 + 1)) (lv' := [(7, .int (a7 + 1)), (0, .ref 0), (1, .int a1), (2, .int a2), (3, .int a3), (4, .int a4), (5, .int a5), (6, .int a6)]) (tat ok_X8_duel_1 (i := 24) (q := 125) rfl rfl) 7 rfl (ia ic_1) (Nat.le_of_ble_eq_true rfl) rfl <|
    V_goto (tat ok_X8_duel_1 (i := 25) (q := 128) rfl rfl) rfl <|
    V_pick [1, 2, 3, 4, 5, 6, 7, 0] rfl (hk (a5, a6) (jq (P := oP P) kq rfl))
def F_X8_duel_114_1 (I : WI) (L : WL) (a1 : Int32) (a2 : Int32) (a3 : Int32) (a4 : Int32) (a7 : Int32) (a8 : Int32) : Option (Int32 × Int32) :=
  (F_X8_duel_122_1 I L a1 a2 a3 a4 a7 a7 a8)
theorem V_X8_duel_114_1  {I : WI} {L : WL} {a1 : Int32} {a2 : Int32} {a3 : Int32} {a4 : Int32} {a7 : Int32} {a8 : Int32} {P : (Int32 × Int32) → Prop} {t : Tg} (hb4 : bz a4 = a4) (hk : ∀ x : (Int32 × Int32), P x → V (zM x_X8_duel 9 0 0 t) 42 [(0, .ref 0), (1, .int a1), (2, .int a2), (3, .int a3), (4, .int a4), (5, .int (p1 x)), (6, .int (p2 x)), (7, .int (a7 + 1))] [] ly0 I L R0 0 0) : oP P (F_X8_duel_114_1 I L a1 a2 a3 a4 a7 a8) → V (zM x_X8_duel 9 0 0 t) 114 [(0, .ref 0), (1, .int a1), (2, .int a2), (3, .int a3), (4, .int a4), (7, .int a7), (8, .int a8)] [] ly0 I L R0 0 0 :=
  fun _ =>
  have kq : (oP P (F_X8_duel_114_1 I L a1 a2 a3 a4 a7 a8)) ∧ True := ⟨by assumption, trivial⟩
  V_iload (tat ok_X8_duel_1 (i := 20) (q := 116) rfl rfl) 5 rfl <|
    V_istore (lv' := [(5, .int a7), (0, .ref 0), (1, .int a1), (2, .int a2), (3, .int a3), (4, .int a4), (7, .int a7), (8, .int a8)]) (tat ok_X8_duel_1 (i := 21) (q := 118) rfl rfl) (Nat.le_of_ble_eq_true rfl) rfl <|
    V_iload (tat ok_X8_duel_1 (i := 22) (q := 120) rfl rfl) 7 rfl <|
    V_istore (lv' := [(6, .int a8), (5, .int a7), (0, .ref 0), (1, .int a1), (2, .int a2), (3, .int a3), (4, .int a4), (7, .int a7), (8, .int a8)]) (tat ok_X8_duel_1 (i := 23) (q := 122) rfl rfl) (Nat.le_of_ble_eq_true rfl) rfl <|
    V_pick [2, 3, 4, 5, 6, 1, 0, 7] rfl (V_X8_duel_122_1 hb4 hk (jq (P := oP P) kq rfl))
def F_X8_duel_91_1 (I : WI) (L : WL) (a1 : Int32) (a2 : Int32) (a3 : Int32) (a4 : Int32) (a7 : Int32) (a5 : Int32) (a6 : Int32) (s0 : Int32) (s1 : Int32) (s2 : Int64) : Option (Int32 × Int32) :=
  (if (Int32.toInt s1) ≤ (3 : Int) then (if a5 = 8 then (F_X8_duel_114_1 I L a1 a2 a3 a4 a7 (G_3 I 1 s2 s1 s0)) else (if (F_X8_isBetter a2 (G_3 I 1 s2 s1 s0) a6) = 0 then (F_X8_duel_122_1 I L a1 a2 a3 a4 a7 a5 a6) else (F_X8_duel_114_1 I L a1 a2 a3 a4 a7 (G_3 I 1 s2 s1 s0)))) else none)
theorem V_X8_duel_91_1  {I : WI} {L : WL} {a1 : Int32} {a2 : Int32} {a3 : Int32} {a4 : Int32} {a7 : Int32} {a5 : Int32} {a6 : Int32} {s0 : Int32} {s1 : Int32} {s2 : Int64} {P : (Int32 × Int32) → Prop} {t : Tg} (hb4 : bz a4 = a4) (hs0 : bz s0 = s0) (hk : ∀ x : (Int32 × Int32), P x → V (zM x_X8_duel 9 0 0 t) 42 [(0, .ref 0), (1, .int a1), (2, .int a2), (3, .int a3), (4, .int a4), (5, .int (p1 x)), (6, .int (p2 x)), (7, .int (a7 + 1))] [] ly0 I L R0 0 0) : oP P (F_X8_duel_91_1 I L a1 a2 a3 a4 a7 a5 a6 s0 s1 s2) → V (zM x_X8_duel 9 0 0 t) 91 [(0, .ref 0), (1, .int a1), (2, .int a2), (3, .int a3), (4, .int a4), (5, .int a5), (6, .int a6), (7, .int a7)] [.int s0, .int s1, .long s2, .ref 1] ly0 I L R0 0 0 :=
  fun _ =>
  have kq : (oP P (F_X8_duel_91_1 I L a1 a2 a3 a4 a7 a5 a6 s0 s1 s2)) ∧ True := ⟨by assumption, trivial⟩
  (if c7 : (Int32.toInt s1) ≤ (3 : Int) then V_cs4 (ct_G3 I L 1 s2 s1 s0 rfl c7) mo_X8_endOfDuel (tat ok_X8_duel_1 (i := 10) (q := 94) rfl rfl) ml_X8_237 ⟨(Nat.le_of_ble_eq_true rfl), (Nat.le_of_ble_eq_true rfl)⟩ ⟨(Nat.le_of_ble_eq_true rfl), (Nat.le_of_ble_eq_true rfl)⟩ (Nat.le_of_ble_eq_true rfl) <|
    V_istore (lv' := [(8, .int (G_3 I 1 s2 s1 s0)), (0, .ref 0), (1, .int a1), (2, .int a2), (3, .int a3), (4, .int a4), (5, .int a5), (6, .int a6), (7, .int a7)]) (tat ok_X8_duel_1 (i := 11) (q := 96) rfl rfl) (Nat.le_of_ble_eq_true rfl) rfl <|
    V_iload (tat ok_X8_duel_1 (i := 12) (q := 98) rfl rfl) 6 rfl <|
    V_bipush (tat ok_X8_duel_1 (i := 13) (q := 100) rfl rfl) bp_8 <|
    V_icmp_eq (tat ok_X8_duel_1 (i := 14) (q := 103) rfl rfl) rfl (fun c8 => V_pick [1, 2, 3, 4, 5, 8, 0] rfl (V_X8_duel_114_1 hb4 hk (jq (P := oP P) kq (Eq.trans (if_pos c7) (if_pos c8))))) (fun c8 => V_iload_n (tat ok_X8_duel_1 (i := 15) (q := 104) rfl rfl) 3 rfl rfl <|
    V_iload (tat ok_X8_duel_1 (i := 16) (q := 106) rfl rfl) 0 rfl <|
    V_iload (tat ok_X8_duel_1 (i := 17) (q := 108) rfl rfl) 7 rfl <|
    V_cs3 (ct_X8_isBetter I L a2 (G_3 I 1 s2 s1 s0) a6 ) mo_X8_isBetter (tat ok_X8_duel_1 (i := 18) (q := 111) rfl rfl) ml_X8_241 ⟨(Nat.le_of_ble_eq_true rfl), (Nat.le_of_ble_eq_true rfl)⟩ ⟨(Nat.le_of_ble_eq_true rfl), (Nat.le_of_ble_eq_true rfl)⟩ (Nat.le_of_ble_eq_true rfl) <|
    V_if_eq (tat ok_X8_duel_1 (i := 19) (q := 114) rfl rfl) rfl (fun c9 => V_pick [1, 2, 3, 4, 5, 6, 7, 8] rfl (V_X8_duel_122_1 hb4 hk (jq (P := oP P) kq (Eq.trans (if_pos c7) (Eq.trans (if_neg c8) (if_pos c9)))))) (fun c9 => V_pick [1, 2, 3, 4, 5, 8, 0] rfl (V_X8_duel_114_1 hb4 hk (jq (P := oP P) kq (Eq.trans (if_pos c7) (Eq.trans (if_neg c8) (if_neg c9))))))) else ((jq (P := oP P) kq (if_neg c7))).elim)
def F_X8_duel_56_1 (I : WI) (L : WL) (a1 : Int32) (a2 : Int32) (a3 : Int32) (a4 : Int32) (a7 : Int32) (a5 : Int32) (a6 : Int32) : Option (Int32 × Int32) :=
  (if a2 = 0 then (F_X8_duel_91_1 I L a1 a2 a3 a4 a7 a5 a6 1 (a1 - 1) ((L 1 3) ^^^ (F_X0_squaresOf I 1 a4 a7))) else (F_X8_duel_91_1 I L a1 a2 a3 a4 a7 a5 a6 0 (a1 - 1) ((L 1 3) ^^^ (F_X0_squaresOf I 1 a4 a7))))
theorem V_X8_duel_56_1  {I : WI} {L : WL} {a1 : Int32} {a2 : Int32} {a3 : Int32} {a4 : Int32} {a7 : Int32} {a5 : Int32} {a6 : Int32} {P : (Int32 × Int32) → Prop} {t : Tg} (hb4 : bz a4 = a4) (hk : ∀ x : (Int32 × Int32), P x → V (zM x_X8_duel 9 0 0 t) 42 [(0, .ref 0), (1, .int a1), (2, .int a2), (3, .int a3), (4, .int a4), (5, .int (p1 x)), (6, .int (p2 x)), (7, .int (a7 + 1))] [] ly0 I L R0 0 0) : oP P (F_X8_duel_56_1 I L a1 a2 a3 a4 a7 a5 a6) → V (zM x_X8_duel 9 0 0 t) 56 [(0, .ref 0), (1, .int a1), (2, .int a2), (3, .int a3), (4, .int a4), (5, .int a5), (6, .int a6), (7, .int a7)] [] ly0 I L R0 0 0 :=
  fun _ =>
  have kq : (oP P (F_X8_duel_56_1 I L a1 a2 a3 a4 a7 a5 a6)) ∧ True := ⟨by assumption, trivial⟩
  V_aload_n (tat ok_X8_duel_0 (i := 31) (q := 57) rfl rfl) 0 rfl rfl <|
    V_getR (tat ok_X8_duel_0 (i := 32) (q := 60) rfl rfl) fk_X8_14 rfl rfl <|
    V_aload_n (tat ok_X8_duel_0 (i := 33) (q := 61) rfl rfl) 0 rfl rfl <|
    V_getR (tat ok_X8_duel_0 (i := 34) (q := 64) rfl rfl) fk_X8_14 rfl rfl <|
    V_getL (tat ok_X8_duel_0 (i := 35) (q := 67) rfl rfl) fk_X8_137 rfl <|
    V_aload_n (tat ok_X8_duel_0 (i := 36) (q := 68) rfl rfl) 0 rfl rfl <|
    V_getR (tat ok_X8_duel_0 (i := 37) (q := 71) rfl rfl) fk_X8_14 rfl rfl <|
    V_iload (tat ok_X8_duel_0 (i := 38) (q := 73) rfl rfl) 4 rfl <|
    V_iload (tat ok_X8_duel_0 (i := 39) (q := 75) rfl rfl) 7 rfl <|
    V_cv2 (ct_X0_squaresOf I L 1 a4 a7 rfl) mo_X0_squaresOf (tat ok_X8_duel_1 (i := 0) (q := 78) rfl rfl) ml_X8_155 rfl ⟨by decide, _, rfl, rfl⟩ ⟨(Nat.le_of_ble_eq_true rfl), (Nat.le_of_ble_eq_true rfl)⟩ ⟨(Nat.le_of_ble_eq_true rfl), (Nat.le_of_ble_eq_true rfl)⟩ (Nat.le_of_ble_eq_true rfl) <|
    V_lxor (tat ok_X8_duel_1 (i := 1) (q := 79) rfl rfl) <|
    V_iload_n (tat ok_X8_duel_1 (i := 2) (q := 80) rfl rfl) 1 rfl rfl <|
    V_iconst (tat ok_X8_duel_1 (i := 3) (q := 81) rfl rfl) ic_1 <|
    V_isub (tat ok_X8_duel_1 (i := 4) (q := 82) rfl rfl) <|
    V_iload_n (tat ok_X8_duel_1 (i := 5) (q := 83) rfl rfl) 2 rfl rfl <|
    V_if_ne (tat ok_X8_duel_1 (i := 6) (q := 86) rfl rfl) rfl (fun c6 => V_iconst (tat ok_X8_duel_1 (i := 9) (q := 91) rfl rfl) ic_0 <|
    V_X8_duel_91_1 hb4 rfl hk (jq (P := oP P) kq (if_neg c6))) (fun c6 => V_iconst (tat ok_X8_duel_1 (i := 7) (q := 87) rfl rfl) ic_1 <|
    V_goto (tat ok_X8_duel_1 (i := 8) (q := 90) rfl rfl) rfl <|
    V_X8_duel_91_1 hb4 rfl hk (jq (P := oP P) kq (if_pos c6)))
def F_X8_duel_186 (I : WI) (L : WL) (a1 : Int32) (a2 : Int32) (a3 : Int32) (s0 : Int32) : Option Int32 :=
  some s0
theorem V_X8_duel_186  {I : WI} {L : WL} {a1 : Int32} {a2 : Int32} {a3 : Int32} {s0 : Int32} {P : Int32 → Prop} {t : Tg} (hr : ∀ v, P v → t = (some (.int v), ly0, I, L, R0)) : oP P (F_X8_duel_186 I L a1 a2 a3 s0) → V (zM x_X8_duel 9 0 0 t) 186 [(0, .ref 0), (1, .int a1), (2, .int a2), (3, .int a3)] [.int s0] ly0 I L R0 0 0 :=
  fun _ =>
  have kq : (oP P (F_X8_duel_186 I L a1 a2 a3 s0)) ∧ True := ⟨by assumption, trivial⟩
  V_iret (tat ok_X8_duel_2 (i := 15) (q := 187) rfl rfl) _ rfl (nar_int _) (hr s0 (jq (P := oP P) kq rfl)) ⟨(Nat.le_of_ble_eq_true rfl), (Nat.le_of_ble_eq_true rfl)⟩
def F_X8_duel_175 (I : WI) (L : WL) (a1 : Int32) (a2 : Int32) (a3 : Int32) (a5 : Int32) (a6 : Int32) : Option Int32 :=
  (if a3 = 0 then (F_X8_duel_186 I L a1 a2 a3 a6) else (F_X8_duel_186 I L a1 a2 a3 a5))
theorem V_X8_duel_175  {I : WI} {L : WL} {a1 : Int32} {a2 : Int32} {a3 : Int32} {a5 : Int32} {a6 : Int32} {P : Int32 → Prop} {t : Tg} (hr : ∀ v, P v → t = (some (.int v), ly0, I, L, R0)) : oP P (F_X8_duel_175 I L a1 a2 a3 a5 a6) → V (zM x_X8_duel 9 0 0 t) 175 [(0, .ref 0), (1, .int a1), (2, .int a2), (3, .int a3), (5, .int a5), (6, .int a6)] [] ly0 I L R0 0 0 :=
  fun _ =>
  have kq : (oP P (F_X8_duel_175 I L a1 a2 a3 a5 a6)) ∧ True := ⟨by assumption, trivial⟩
  V_iload_n (tat ok_X8_duel_2 (i := 10) (q := 176) rfl rfl) 3 rfl rfl <|
    V_if_ne (tat ok_X8_duel_2 (i := 11) (q := 179) rfl rfl) rfl (fun c13 => V_iload (tat ok_X8_duel_2 (i := 14) (q := 186) rfl rfl) 4 rfl <|
    V_pick [0, 1, 2, 3] rfl (V_X8_duel_186  hr (jq (P := oP P) kq (if_neg c13)))) (fun c13 => V_iload (tat ok_X8_duel_2 (i := 12) (q := 181) rfl rfl) 5 rfl <|
    V_goto (tat ok_X8_duel_2 (i := 13) (q := 184) rfl rfl) rfl <|
    V_pick [0, 1, 2, 3] rfl (V_X8_duel_186  hr (jq (P := oP P) kq (if_pos c13))))
def F_X8_duel_151 (I : WI) (L : WL) (a1 : Int32) (a2 : Int32) (a3 : Int32) (a5 : Int32) (a6 : Int32) (s0 : Int32) (s1 : Int32) (s2 : Int64) : Option Int32 :=
  (if (Int32.toInt s1) ≤ (3 : Int) then (if (F_X8_isBetter a2 (G_3 I 1 s2 s1 s0) a6) = 0 then (F_X8_duel_175 I L a1 a2 a3 a5 a6) else (F_X8_duel_175 I L a1 a2 a3 8 (G_3 I 1 s2 s1 s0))) else none)
theorem V_X8_duel_151  {I : WI} {L : WL} {a1 : Int32} {a2 : Int32} {a3 : Int32} {a5 : Int32} {a6 : Int32} {s0 : Int32} {s1 : Int32} {s2 : Int64} {P : Int32 → Prop} {t : Tg} (hs0 : bz s0 = s0) (hr : ∀ v, P v → t = (some (.int v), ly0, I, L, R0)) : oP P (F_X8_duel_151 I L a1 a2 a3 a5 a6 s0 s1 s2) → V (zM x_X8_duel 9 0 0 t) 151 [(0, .ref 0), (1, .int a1), (2, .int a2), (3, .int a3), (5, .int a5), (6, .int a6)] [.int s0, .int s1, .long s2, .ref 1] ly0 I L R0 0 0 :=
  fun _ =>
  have kq : (oP P (F_X8_duel_151 I L a1 a2 a3 a5 a6 s0 s1 s2)) ∧ True := ⟨by assumption, trivial⟩
  (if c11 : (Int32.toInt s1) ≤ (3 : Int) then V_cs4 (ct_G3 I L 1 s2 s1 s0 rfl c11) mo_X8_endOfDuel (tat ok_X8_duel_1 (i := 39) (q := 154) rfl rfl) ml_X8_237 ⟨(Nat.le_of_ble_eq_true rfl), (Nat.le_of_ble_eq_true rfl)⟩ ⟨(Nat.le_of_ble_eq_true rfl), (Nat.le_of_ble_eq_true rfl)⟩ (Nat.le_of_ble_eq_true rfl) <|
    V_istore (lv' := [(7, .int (G_3 I 1 s2 s1 s0)), (0, .ref 0), (1, .int a1), (2, .int a2), (3, .int a3), (5, .int a5), (6, .int a6)]) (tat ok_X8_duel_2 (i := 0) (q := 156) rfl rfl) (Nat.le_of_ble_eq_true rfl) rfl <|
    V_iload_n (tat ok_X8_duel_2 (i := 1) (q := 157) rfl rfl) 3 rfl rfl <|
    V_iload (tat ok_X8_duel_2 (i := 2) (q := 159) rfl rfl) 0 rfl <|
    V_iload (tat ok_X8_duel_2 (i := 3) (q := 161) rfl rfl) 6 rfl <|
    V_cs3 (ct_X8_isBetter I L a2 (G_3 I 1 s2 s1 s0) a6 ) mo_X8_isBetter (tat ok_X8_duel_2 (i := 4) (q := 164) rfl rfl) ml_X8_241 ⟨(Nat.le_of_ble_eq_true rfl), (Nat.le_of_ble_eq_true rfl)⟩ ⟨(Nat.le_of_ble_eq_true rfl), (Nat.le_of_ble_eq_true rfl)⟩ (Nat.le_of_ble_eq_true rfl) <|
    V_if_eq (tat ok_X8_duel_2 (i := 5) (q := 167) rfl rfl) rfl (fun c12 => V_pick [1, 2, 3, 4, 5, 6] rfl (V_X8_duel_175  hr (jq (P := oP P) kq (Eq.trans (if_pos c11) (if_pos c12))))) (fun c12 => V_bipush (tat ok_X8_duel_2 (i := 6) (q := 169) rfl rfl) bp_8 <|
    V_istore (lv' := [(5, .int 8), (7, .int (G_3 I 1 s2 s1 s0)), (0, .ref 0), (1, .int a1), (2, .int a2), (3, .int a3), (6, .int a6)]) (tat ok_X8_duel_2 (i := 7) (q := 171) rfl rfl) (Nat.le_of_ble_eq_true rfl) rfl <|
    V_iload (tat ok_X8_duel_2 (i := 8) (q := 173) rfl rfl) 1 rfl <|
    V_istore (lv' := [(6, .int (G_3 I 1 s2 s1 s0)), (5, .int 8), (7, .int (G_3 I 1 s2 s1 s0)), (0, .ref 0), (1, .int a1), (2, .int a2), (3, .int a3)]) (tat ok_X8_duel_2 (i := 9) (q := 175) rfl rfl) (Nat.le_of_ble_eq_true rfl) rfl <|
    V_pick [3, 4, 5, 6, 1, 0] rfl (V_X8_duel_175  hr (jq (P := oP P) kq (Eq.trans (if_pos c11) (if_neg c12))))) else ((jq (P := oP P) kq (if_neg c11))).elim)
def F_X8_duel_128 (I : WI) (L : WL) (a1 : Int32) (a2 : Int32) (a3 : Int32) (a5 : Int32) (a6 : Int32) : Option Int32 :=
  (if a2 = 0 then (F_X8_duel_151 I L a1 a2 a3 a5 a6 1 (a1 - 1) (L 1 3)) else (F_X8_duel_151 I L a1 a2 a3 a5 a6 0 (a1 - 1) (L 1 3)))
theorem V_X8_duel_128  {I : WI} {L : WL} {a1 : Int32} {a2 : Int32} {a3 : Int32} {a5 : Int32} {a6 : Int32} {P : Int32 → Prop} {t : Tg} (hr : ∀ v, P v → t = (some (.int v), ly0, I, L, R0)) : oP P (F_X8_duel_128 I L a1 a2 a3 a5 a6) → V (zM x_X8_duel 9 0 0 t) 128 [(0, .ref 0), (1, .int a1), (2, .int a2), (3, .int a3), (5, .int a5), (6, .int a6)] [] ly0 I L R0 0 0 :=
  fun _ =>
  have kq : (oP P (F_X8_duel_128 I L a1 a2 a3 a5 a6)) ∧ True := ⟨by assumption, trivial⟩
  V_aload_n (tat ok_X8_duel_1 (i := 26) (q := 129) rfl rfl) 0 rfl rfl <|
    V_getR (tat ok_X8_duel_1 (i := 27) (q := 132) rfl rfl) fk_X8_14 rfl rfl <|
    V_aload_n (tat ok_X8_duel_1 (i := 28) (q := 133) rfl rfl) 0 rfl rfl <|
    V_getR (tat ok_X8_duel_1 (i := 29) (q := 136) rfl rfl) fk_X8_14 rfl rfl <|
    V_getL (tat ok_X8_duel_1 (i := 30) (q := 139) rfl rfl) fk_X8_137 rfl <|
    V_iload_n (tat ok_X8_duel_1 (i := 31) (q := 140) rfl rfl) 1 rfl rfl <|
    V_iconst (tat ok_X8_duel_1 (i := 32) (q := 141) rfl rfl) ic_1 <|
    V_isub (tat ok_X8_duel_1 (i := 33) (q := 142) rfl rfl) <|
    V_iload_n (tat ok_X8_duel_1 (i := 34) (q := 143) rfl rfl) 2 rfl rfl <|
    V_if_ne (tat ok_X8_duel_1 (i := 35) (q := 146) rfl rfl) rfl (fun c10 => V_iconst (tat ok_X8_duel_1 (i := 38) (q := 151) rfl rfl) ic_0 <|
    V_X8_duel_151 rfl hr (jq (P := oP P) kq (if_neg c10))) (fun c10 => V_iconst (tat ok_X8_duel_1 (i := 36) (q := 147) rfl rfl) ic_1 <|
    V_goto (tat ok_X8_duel_1 (i := 37) (q := 150) rfl rfl) rfl <|
    V_X8_duel_151 rfl hr (jq (P := oP P) kq (if_pos c10)))
def F_X8_duel_42 (I : WI) (L : WL) (a1 : Int32) (a2 : Int32) (a3 : Int32) (a4 : Int32) (a5 : Int32) (a6 : Int32) (a7 : Int32) : Option Int32 :=
  (frp0 (fun i x => (F_X8_duel_56_1 I L a1 a2 a3 a4 i (p1 x) (p2 x))) (F_X0_linesOf I 1 a4) (fu a7 (F_X0_linesOf I 1 a4)) a7 (a5, a6)).bind (fun q => (F_X8_duel_128 I L a1 a2 a3 (p1 (p2 q)) (p2 (p2 q))))
theorem V_X8_duel_42  {I : WI} {L : WL} {a1 : Int32} {a2 : Int32} {a3 : Int32} {a4 : Int32} {a5 : Int32} {a6 : Int32} {a7 : Int32} {P : Int32 → Prop} {t : Tg} (hb4 : bz a4 = a4) (hb6 : bz a6 = a6) (hb7 : bz a7 = a7) (hr : ∀ v, P v → t = (some (.int v), ly0, I, L, R0)) (kk : oP P (F_X8_duel_42 I L a1 a2 a3 a4 a5 a6 a7)) : V (zM x_X8_duel 9 0 0 t) 42 [(0, .ref 0), (1, .int a1), (2, .int a2), (3, .int a3), (4, .int a4), (5, .int a5), (6, .int a6), (7, .int a7)] [] ly0 I L R0 0 0 :=
  V_frp0 (fun i x => (F_X8_duel_56_1 I L a1 a2 a3 a4 i (p1 x) (p2 x))) (F_X0_linesOf I 1 a4) (fun i x => V (zM x_X8_duel 9 0 0 t) 42 [(0, .ref 0), (1, .int a1), (2, .int a2), (3, .int a3), (4, .int a4), (5, .int (p1 x)), (6, .int (p2 x)), (7, .int i)] [] ly0 I L R0 0 0) (fun i x => oP P ((F_X8_duel_128 I L a1 a2 a3 (p1 x) (p2 x)))) (c := a7) (s := (a5, a6)) (fun i x kx kb => V_iload (tat ok_X8_duel_0 (i := 25) (q := 44) rfl rfl) 7 rfl <|
    V_aload_n (tat ok_X8_duel_0 (i := 26) (q := 45) rfl rfl) 0 rfl rfl <|
    V_getR (tat ok_X8_duel_0 (i := 27) (q := 48) rfl rfl) fk_X8_14 rfl rfl <|
    V_iload (tat ok_X8_duel_0 (i := 28) (q := 50) rfl rfl) 4 rfl <|
    V_cv1 (ct_X0_linesOf I L 1 a4 rfl) mo_X0_linesOf (tat ok_X8_duel_0 (i := 29) (q := 53) rfl rfl) ml_X8_126 rfl ⟨by decide, _, rfl, rfl⟩ ⟨(Nat.le_of_ble_eq_true rfl), (Nat.le_of_ble_eq_true rfl)⟩ ⟨(Nat.le_of_ble_eq_true rfl), (Nat.le_of_ble_eq_true rfl)⟩ (Nat.le_of_ble_eq_true rfl) <|
    V_icmp_ge (tat ok_X8_duel_0 (i := 30) (q := 56) rfl rfl) rfl (fun c0 => V_pick [0, 1, 2, 3, 5, 6] rfl (V_X8_duel_128  hr (kx c0))) (fun c0 => V_X8_duel_56_1 (P := (fun x => (fun i x => V (zM x_X8_duel 9 0 0 t) 42 [(0, .ref 0), (1, .int a1), (2, .int a2), (3, .int a3), (4, .int a4), (5, .int (p1 x)), (6, .int (p2 x)), (7, .int i)] [] ly0 I L R0 0 0) (i + 1) x)) hb4 (fun _ e => e) (kb c0))) (oP_bind (f := fun q => _) kk)
def F_X8_duel_30 (I : WI) (L : WL) (a1 : Int32) (a2 : Int32) (a3 : Int32) (s0 : Int32) : Option Int32 :=
  (F_X8_duel_42 I L a1 a2 a3 s0 8 0 0)
theorem V_X8_duel_30  {I : WI} {L : WL} {a1 : Int32} {a2 : Int32} {a3 : Int32} {s0 : Int32} {P : Int32 → Prop} {t : Tg} (hs0 : bz s0 = s0) (hr : ∀ v, P v → t = (some (.int v), ly0, I, L, R0)) : oP P (F_X8_duel_30 I L a1 a2 a3 s0) → V (zM x_X8_duel 9 0 0 t) 30 [(0, .ref 0), (1, .int a1), (2, .int a2), (3, .int a3)] [.int s0] ly0 I L R0 0 0 :=
  fun _ =>
  have kq : (oP P (F_X8_duel_30 I L a1 a2 a3 s0)) ∧ True := ⟨by assumption, trivial⟩
  V_istore (lv' := [(4, .int s0), (0, .ref 0), (1, .int a1), (2, .int a2), (3, .int a3)]) (tat ok_X8_duel_0 (i := 18) (q := 32) rfl rfl) (Nat.le_of_ble_eq_true rfl) rfl <|
    V_bipush (tat ok_X8_duel_0 (i := 19) (q := 34) rfl rfl) bp_8 <|
    V_istore (lv' := [(5, .int 8), (4, .int s0), (0, .ref 0), (1, .int a1), (2, .int a2), (3, .int a3)]) (tat ok_X8_duel_0 (i := 20) (q := 36) rfl rfl) (Nat.le_of_ble_eq_true rfl) rfl <|
    V_iconst (tat ok_X8_duel_0 (i := 21) (q := 37) rfl rfl) ic_0 <|
    V_istore (lv' := [(6, .int 0), (5, .int 8), (4, .int s0), (0, .ref 0), (1, .int a1), (2, .int a2), (3, .int a3)]) (tat ok_X8_duel_0 (i := 22) (q := 39) rfl rfl) (Nat.le_of_ble_eq_true rfl) rfl <|
    V_iconst (tat ok_X8_duel_0 (i := 23) (q := 40) rfl rfl) ic_0 <|
    V_istore (lv' := [(7, .int 0), (6, .int 0), (5, .int 8), (4, .int s0), (0, .ref 0), (1, .int a1), (2, .int a2), (3, .int a3)]) (tat ok_X8_duel_0 (i := 24) (q := 42) rfl rfl) (Nat.le_of_ble_eq_true rfl) rfl <|
    V_pick [4, 5, 6, 7, 3, 2, 1, 0] rfl (V_X8_duel_42 hs0 rfl rfl hr (jq (P := oP P) kq rfl))
def F_X8_duel (I : WI) (L : WL) (a1 : Int32) (a2 : Int32) (a3 : Int32) : Option Int32 :=
  (if a1 < 1 then (F_X8_duel_19 I L a1 a2 a3) else (if 4 < a1 then (F_X8_duel_19 I L a1 a2 a3) else (if a3 < 0 then (F_X8_duel_19 I L a1 a2 a3) else (if a3 ≤ 1 then (if a2 = 0 then (F_X8_duel_30 I L a1 a2 a3 1) else (F_X8_duel_30 I L a1 a2 a3 0)) else (F_X8_duel_19 I L a1 a2 a3)))))
theorem V_X8_duel  {I : WI} {L : WL} {a1 : Int32} {a2 : Int32} {a3 : Int32}  {P : Int32 → Prop} {t : Tg} (hr : ∀ v, P v → t = (some (.int v), ly0, I, L, R0)) : oP P (F_X8_duel I L a1 a2 a3) → V (zM x_X8_duel 9 0 0 t) 0 [(0, .ref 0), (1, .int a1), (2, .int a2), (3, .int a3)] [] ly0 I L R0 0 0 :=
  fun _ =>
  have kq : (oP P (F_X8_duel I L a1 a2 a3)) ∧ True := ⟨by assumption, trivial⟩
  V_iload_n (tat ok_X8_duel_0 (i := 0) (q := 1) rfl rfl) 1 rfl rfl <|
    V_iconst (tat ok_X8_duel_0 (i := 1) (q := 2) rfl rfl) ic_1 <|
    V_icmp_lt (tat ok_X8_duel_0 (i := 2) (q := 5) rfl rfl) rfl (fun c1 => V_X8_duel_19  hr (jq (P := oP P) kq (if_pos c1))) (fun c1 => V_iload_n (tat ok_X8_duel_0 (i := 3) (q := 6) rfl rfl) 1 rfl rfl <|
    V_iconst (tat ok_X8_duel_0 (i := 4) (q := 7) rfl rfl) ic_4 <|
    V_icmp_gt (tat ok_X8_duel_0 (i := 5) (q := 10) rfl rfl) rfl (fun c2 => V_X8_duel_19  hr (jq (P := oP P) kq (Eq.trans (if_neg c1) (if_pos c2)))) (fun c2 => V_iload_n (tat ok_X8_duel_0 (i := 6) (q := 11) rfl rfl) 3 rfl rfl <|
    V_if_lt (tat ok_X8_duel_0 (i := 7) (q := 14) rfl rfl) rfl (fun c3 => V_X8_duel_19  hr (jq (P := oP P) kq (Eq.trans (if_neg c1) (Eq.trans (if_neg c2) (if_pos c3))))) (fun c3 => V_iload_n (tat ok_X8_duel_0 (i := 8) (q := 15) rfl rfl) 3 rfl rfl <|
    V_iconst (tat ok_X8_duel_0 (i := 9) (q := 16) rfl rfl) ic_1 <|
    V_icmp_le (tat ok_X8_duel_0 (i := 10) (q := 19) rfl rfl) rfl (fun c4 => V_iload_n (tat ok_X8_duel_0 (i := 13) (q := 22) rfl rfl) 2 rfl rfl <|
    V_if_eq (tat ok_X8_duel_0 (i := 14) (q := 25) rfl rfl) rfl (fun c5 => V_iconst (tat ok_X8_duel_0 (i := 17) (q := 30) rfl rfl) ic_1 <|
    V_X8_duel_30 rfl hr (jq (P := oP P) kq (Eq.trans (if_neg c1) (Eq.trans (if_neg c2) (Eq.trans (if_neg c3) (Eq.trans (if_pos c4) (if_pos c5))))))) (fun c5 => V_iconst (tat ok_X8_duel_0 (i := 15) (q := 26) rfl rfl) ic_0 <|
    V_goto (tat ok_X8_duel_0 (i := 16) (q := 29) rfl rfl) rfl <|
    V_X8_duel_30 rfl hr (jq (P := oP P) kq (Eq.trans (if_neg c1) (Eq.trans (if_neg c2) (Eq.trans (if_neg c3) (Eq.trans (if_pos c4) (if_neg c5)))))))) (fun c4 => V_X8_duel_19  hr (jq (P := oP P) kq (Eq.trans (if_neg c1) (Eq.trans (if_neg c2) (Eq.trans (if_neg c3) (if_neg c4)))))))))
theorem ct_X8_duel  (I : WI) (L : WL) (a1 : Int32) (a2 : Int32) (a3 : Int32)  {v : Int32} (h : (F_X8_duel I L a1 a2 a3) = some v) : Ct x_X8_duel 9 [.ref 0, .int a1, .int a2, .int a3] ly0 I L R0 0 0 (some (.int v), ly0, I, L, R0) :=
  Ct_of_V mo_X8_duel.1 (Nat.le_of_ble_eq_true rfl) (V_X8_duel (P := fun x => x = v)  (fun _ e => by rw [e]) (by rw [h]; exact rfl))
def F_X8_turned_19 (I : WI) (L : WL) (a1 : Int32) (a2 : Int32) : (Int32 × WI) :=
  ((-1), I)
theorem V_X8_turned_19  {I : WI} {L : WL} {a1 : Int32} {a2 : Int32}  {P : (Int32 × WI) → Prop} {t : Tg} (hr : ∀ v, P v → t = (some (.int (p1 v)), ly0, (p2 v), L, R0)) (kk : P (F_X8_turned_19 I L a1 a2)) : V (zM x_X8_turned 7 0 0 t) 19 [(0, .ref 0), (1, .int a1), (2, .int a2)] [] ly0 I L R0 0 0 :=
  V_iconst (tat ok_X8_turned_0 (i := 11) (q := 20) rfl rfl) ic_m1 <|
    V_iret (tat ok_X8_turned_0 (i := 12) (q := 21) rfl rfl) _ rfl (nar_int _) (hr ((-1), I) (jx (P := P) kk rfl)) ⟨(Nat.le_of_ble_eq_true rfl), (Nat.le_of_ble_eq_true rfl)⟩
def F_X8_turned_39 (I : WI) (L : WL) (a1 : Int32) (a2 : Int32) : (Int32 × WI) :=
  ((-2), I)
theorem V_X8_turned_39  {I : WI} {L : WL} {a1 : Int32} {a2 : Int32}  {P : (Int32 × WI) → Prop} {t : Tg} (hr : ∀ v, P v → t = (some (.int (p1 v)), ly0, (p2 v), L, R0)) (kk : P (F_X8_turned_39 I L a1 a2)) : V (zM x_X8_turned 7 0 0 t) 39 [(0, .ref 0), (1, .int a1), (2, .int a2)] [] ly0 I L R0 0 0 :=
  V_bipush (tat ok_X8_turned_0 (i := 21) (q := 41) rfl rfl) bp_m2 <|
    V_iret (tat ok_X8_turned_0 (i := 22) (q := 42) rfl rfl) _ rfl (nar_int _) (hr ((-2), I) (jx (P := P) kk rfl)) ⟨(Nat.le_of_ble_eq_true rfl), (Nat.le_of_ble_eq_true rfl)⟩
def F_X8_turned_92 (I : WI) (L : WL) (a1 : Int32) (a2 : Int32) (s0 : Int32) : (Int32 × WI) :=
  (s0, I)
theorem V_X8_turned_92  {I : WI} {L : WL} {a1 : Int32} {a2 : Int32} {s0 : Int32} {P : (Int32 × WI) → Prop} {t : Tg} (hr : ∀ v, P v → t = (some (.int (p1 v)), ly0, (p2 v), L, R0)) (kk : P (F_X8_turned_92 I L a1 a2 s0)) : V (zM x_X8_turned 7 0 0 t) 92 [(0, .ref 0), (1, .int a1), (2, .int a2)] [.int s0] ly0 I L R0 0 0 :=
  V_iret (tat ok_X8_turned_1 (i := 6) (q := 93) rfl rfl) _ rfl (nar_int _) (hr (s0, I) (jx (P := P) kk rfl)) ⟨(Nat.le_of_ble_eq_true rfl), (Nat.le_of_ble_eq_true rfl)⟩
def F_X8_turned (I : WI) (L : WL) (a1 : Int32) (a2 : Int32) : (Int32 × WI) :=
  (if a1 = 0 then (if a2 < 0 then (F_X8_turned_19 I L a1 a2) else (if a2 ≤ 2 then (if (bz (I 3 0)) = 0 then (F_X8_turned_39 I L a1 a2) else (if (F_X0_sameSize I 3 1) = 0 then (F_X8_turned_39 I L a1 a2) else (if (bz ((F_X7_findPlan I 1 ((L 1 3) ^^^ (L 3 3))) 27 0)) = 0 then (F_X8_turned_92 (F_X7_findPlan I 1 ((L 1 3) ^^^ (L 3 3))) L a1 a2 (-4)) else (F_X8_turned_92 (F_X7_findPlan I 1 ((L 1 3) ^^^ (L 3 3))) L a1 a2 (F_X8_toldOf (F_X7_findPlan I 1 ((L 1 3) ^^^ (L 3 3))) a2 (F_X7_acts (F_X7_findPlan I 1 ((L 1 3) ^^^ (L 3 3))))))))) else (F_X8_turned_19 I L a1 a2))) else (if a1 = 1 then (if a2 < 0 then (F_X8_turned_19 I L a1 a2) else (if a2 ≤ 2 then (if (bz (I 4 0)) = 0 then (F_X8_turned_39 I L a1 a2) else (if (F_X0_sameSize I 4 1) = 0 then (F_X8_turned_39 I L a1 a2) else (if (bz ((F_X7_findPlan I 1 ((L 1 3) ^^^ (L 4 3))) 27 0)) = 0 then (F_X8_turned_92 (F_X7_findPlan I 1 ((L 1 3) ^^^ (L 4 3))) L a1 a2 (-4)) else (F_X8_turned_92 (F_X7_findPlan I 1 ((L 1 3) ^^^ (L 4 3))) L a1 a2 (F_X8_toldOf (F_X7_findPlan I 1 ((L 1 3) ^^^ (L 4 3))) a2 (F_X7_acts (F_X7_findPlan I 1 ((L 1 3) ^^^ (L 4 3))))))))) else (F_X8_turned_19 I L a1 a2))) else (F_X8_turned_19 I L a1 a2)))
theorem V_X8_turned  {I : WI} {L : WL} {a1 : Int32} {a2 : Int32}  {P : (Int32 × WI) → Prop} {t : Tg} (hr : ∀ v, P v → t = (some (.int (p1 v)), ly0, (p2 v), L, R0)) (kk : P (F_X8_turned I L a1 a2)) : V (zM x_X8_turned 7 0 0 t) 0 [(0, .ref 0), (1, .int a1), (2, .int a2)] [] ly0 I L R0 0 0 :=
  V_aload_n (tat ok_X8_turned_0 (i := 0) (q := 1) rfl rfl) 0 rfl rfl <|
    V_iload_n (tat ok_X8_turned_0 (i := 1) (q := 2) rfl rfl) 1 rfl rfl <|
    (if c1 : a1 = 0 then V_cv1 (ct_img0 I L a1 c1) mo_X8_imageOf (tat ok_X8_turned_0 (i := 2) (q := 5) rfl rfl) ml_X8_183 rfl ⟨by decide, _, rfl, rfl⟩ ⟨(Nat.le_of_ble_eq_true rfl), (Nat.le_of_ble_eq_true rfl)⟩ ⟨(Nat.le_of_ble_eq_true rfl), (Nat.le_of_ble_eq_true rfl)⟩ (Nat.le_of_ble_eq_true rfl) <|
    V_astore_n (lv' := [(3, .ref 3), (0, .ref 0), (1, .int a1), (2, .int a2)]) (tat ok_X8_turned_0 (i := 3) (q := 6) rfl rfl) rfl (by decide) (Nat.le_of_ble_eq_true rfl) rfl <|
    V_aload_n (tat ok_X8_turned_0 (i := 4) (q := 7) rfl rfl) 0 rfl rfl <|
    V_ifnull (tat ok_X8_turned_0 (i := 5) (q := 10) rfl rfl) (by decide) <|
    V_iload_n (tat ok_X8_turned_0 (i := 6) (q := 11) rfl rfl) 3 rfl rfl <|
    V_if_lt (tat ok_X8_turned_0 (i := 7) (q := 14) rfl rfl) rfl (fun c3 => V_pick [1, 2, 3] rfl (V_X8_turned_19  hr (jx (P := P) kk (Eq.trans (if_pos c1) (if_pos c3))))) (fun c3 => V_iload_n (tat ok_X8_turned_0 (i := 8) (q := 15) rfl rfl) 3 rfl rfl <|
    V_iconst (tat ok_X8_turned_0 (i := 9) (q := 16) rfl rfl) ic_2 <|
    V_icmp_le (tat ok_X8_turned_0 (i := 10) (q := 19) rfl rfl) rfl (fun c4 => V_aload_n (tat ok_X8_turned_0 (i := 13) (q := 22) rfl rfl) 0 rfl rfl <|
    V_getZ (tat ok_X8_turned_0 (i := 14) (q := 25) rfl rfl) fk_X8_106 rfl <|
    V_if_eq (tat ok_X8_turned_0 (i := 15) (q := 28) rfl rfl) rfl (fun c5 => V_pick [1, 2, 3] rfl (V_X8_turned_39  hr (jx (P := P) kk (Eq.trans (if_pos c1) (Eq.trans (if_neg c3) (Eq.trans (if_pos c4) (if_pos c5))))))) (fun c5 => V_aload_n (tat ok_X8_turned_0 (i := 16) (q := 29) rfl rfl) 0 rfl rfl <|
    V_aload_n (tat ok_X8_turned_0 (i := 17) (q := 30) rfl rfl) 1 rfl rfl <|
    V_getR (tat ok_X8_turned_0 (i := 18) (q := 33) rfl rfl) fk_X8_14 rfl rfl <|
    V_cv1 (ct_X0_sameSize I L 3 1 rfl rfl) mo_X0_sameSize (tat ok_X8_turned_0 (i := 19) (q := 36) rfl rfl) ml_X8_187 rfl ⟨by decide, _, rfl, rfl⟩ ⟨(Nat.le_of_ble_eq_true rfl), (Nat.le_of_ble_eq_true rfl)⟩ ⟨(Nat.le_of_ble_eq_true rfl), (Nat.le_of_ble_eq_true rfl)⟩ (Nat.le_of_ble_eq_true rfl) <|
    V_if_ne (tat ok_X8_turned_0 (i := 20) (q := 39) rfl rfl) rfl (fun c6 => V_aload_n (tat ok_X8_turned_0 (i := 23) (q := 43) rfl rfl) 1 rfl rfl <|
    V_getR (tat ok_X8_turned_0 (i := 24) (q := 46) rfl rfl) fk_X8_63 rfl rfl <|
    V_aload_n (tat ok_X8_turned_0 (i := 25) (q := 47) rfl rfl) 1 rfl rfl <|
    V_getR (tat ok_X8_turned_0 (i := 26) (q := 50) rfl rfl) fk_X8_14 rfl rfl <|
    V_aload_n (tat ok_X8_turned_0 (i := 27) (q := 51) rfl rfl) 1 rfl rfl <|
    V_getR (tat ok_X8_turned_0 (i := 28) (q := 54) rfl rfl) fk_X8_14 rfl rfl <|
    V_getL (tat ok_X8_turned_0 (i := 29) (q := 57) rfl rfl) fk_X8_137 rfl <|
    V_aload_n (tat ok_X8_turned_0 (i := 30) (q := 58) rfl rfl) 0 rfl rfl <|
    V_getL (tat ok_X8_turned_0 (i := 31) (q := 61) rfl rfl) fk_X8_137 rfl <|
    V_lxor (tat ok_X8_turned_0 (i := 32) (q := 62) rfl rfl) <|
    V_cv2v (ct_X7_findPlan I L 1 ((L 1 3) ^^^ (L 3 3)) rfl) mo_X7_findPlan (tat ok_X8_turned_0 (i := 33) (q := 65) rfl rfl) ml_X8_191 rfl ⟨by decide, _, rfl, rfl⟩ ⟨(Nat.le_of_ble_eq_true rfl), (Nat.le_of_ble_eq_true rfl)⟩ ⟨(Nat.le_of_ble_eq_true rfl), (Nat.le_of_ble_eq_true rfl)⟩ (Nat.le_of_ble_eq_true rfl) <|
    V_aload_n (tat ok_X8_turned_0 (i := 34) (q := 66) rfl rfl) 1 rfl rfl <|
    V_getR (tat ok_X8_turned_0 (i := 35) (q := 69) rfl rfl) fk_X8_63 rfl rfl <|
    V_getZ (tat ok_X8_turned_0 (i := 36) (q := 72) rfl rfl) fk_X8_195 rfl <|
    V_if_eq (tat ok_X8_turned_0 (i := 37) (q := 75) rfl rfl) rfl (fun c7 => V_bipush (tat ok_X8_turned_1 (i := 5) (q := 92) rfl rfl) bp_m4 <|
    V_pick [1, 2, 3] rfl (V_X8_turned_92  hr (jx (P := P) kk (Eq.trans (if_pos c1) (Eq.trans (if_neg c3) (Eq.trans (if_pos c4) (Eq.trans (if_neg c5) (Eq.trans (if_neg c6) (if_pos c7))))))))) (fun c7 => V_aload_n (tat ok_X8_turned_0 (i := 38) (q := 76) rfl rfl) 1 rfl rfl <|
    V_iload_n (tat ok_X8_turned_0 (i := 39) (q := 77) rfl rfl) 3 rfl rfl <|
    V_aload_n (tat ok_X8_turned_1 (i := 0) (q := 78) rfl rfl) 1 rfl rfl <|
    V_getR (tat ok_X8_turned_1 (i := 1) (q := 81) rfl rfl) fk_X8_63 rfl rfl <|
    V_cv0 (ct_X7_acts (F_X7_findPlan I 1 ((L 1 3) ^^^ (L 3 3))) L  ) mo_X7_acts (tat ok_X8_turned_1 (i := 2) (q := 84) rfl rfl) ml_X8_214 rfl ⟨by decide, _, rfl, rfl⟩ ⟨(Nat.le_of_ble_eq_true rfl), (Nat.le_of_ble_eq_true rfl)⟩ ⟨(Nat.le_of_ble_eq_true rfl), (Nat.le_of_ble_eq_true rfl)⟩ (Nat.le_of_ble_eq_true rfl) <|
    V_cv2 (ct_X8_toldOf (F_X7_findPlan I 1 ((L 1 3) ^^^ (L 3 3))) L a2 (F_X7_acts (F_X7_findPlan I 1 ((L 1 3) ^^^ (L 3 3)))) ) mo_X8_toldOf (tat ok_X8_turned_1 (i := 3) (q := 87) rfl rfl) ml_X8_217 rfl ⟨by decide, _, rfl, rfl⟩ ⟨(Nat.le_of_ble_eq_true rfl), (Nat.le_of_ble_eq_true rfl)⟩ ⟨(Nat.le_of_ble_eq_true rfl), (Nat.le_of_ble_eq_true rfl)⟩ (Nat.le_of_ble_eq_true rfl) <|
    V_goto (tat ok_X8_turned_1 (i := 4) (q := 90) rfl rfl) rfl <|
    V_pick [1, 2, 3] rfl (V_X8_turned_92  hr (jx (P := P) kk (Eq.trans (if_pos c1) (Eq.trans (if_neg c3) (Eq.trans (if_pos c4) (Eq.trans (if_neg c5) (Eq.trans (if_neg c6) (if_neg c7)))))))))) (fun c6 => V_pick [1, 2, 3] rfl (V_X8_turned_39  hr (jx (P := P) kk (Eq.trans (if_pos c1) (Eq.trans (if_neg c3) (Eq.trans (if_pos c4) (Eq.trans (if_neg c5) (if_pos c6)))))))))) (fun c4 => V_pick [1, 2, 3] rfl (V_X8_turned_19  hr (jx (P := P) kk (Eq.trans (if_pos c1) (Eq.trans (if_neg c3) (if_neg c4))))))) else (if c2 : a1 = 1 then V_cv1 (ct_img1 I L a1 c2) mo_X8_imageOf (tat ok_X8_turned_0 (i := 2) (q := 5) rfl rfl) ml_X8_183 rfl ⟨by decide, _, rfl, rfl⟩ ⟨(Nat.le_of_ble_eq_true rfl), (Nat.le_of_ble_eq_true rfl)⟩ ⟨(Nat.le_of_ble_eq_true rfl), (Nat.le_of_ble_eq_true rfl)⟩ (Nat.le_of_ble_eq_true rfl) <|
    V_astore_n (lv' := [(3, .ref 4), (0, .ref 0), (1, .int a1), (2, .int a2)]) (tat ok_X8_turned_0 (i := 3) (q := 6) rfl rfl) rfl (by decide) (Nat.le_of_ble_eq_true rfl) rfl <|
    V_aload_n (tat ok_X8_turned_0 (i := 4) (q := 7) rfl rfl) 0 rfl rfl <|
    V_ifnull (tat ok_X8_turned_0 (i := 5) (q := 10) rfl rfl) (by decide) <|
    V_iload_n (tat ok_X8_turned_0 (i := 6) (q := 11) rfl rfl) 3 rfl rfl <|
    V_if_lt (tat ok_X8_turned_0 (i := 7) (q := 14) rfl rfl) rfl (fun c8 => V_pick [1, 2, 3] rfl (V_X8_turned_19  hr (jx (P := P) kk (Eq.trans (if_neg c1) (Eq.trans (if_pos c2) (if_pos c8)))))) (fun c8 => V_iload_n (tat ok_X8_turned_0 (i := 8) (q := 15) rfl rfl) 3 rfl rfl <|
    V_iconst (tat ok_X8_turned_0 (i := 9) (q := 16) rfl rfl) ic_2 <|
    V_icmp_le (tat ok_X8_turned_0 (i := 10) (q := 19) rfl rfl) rfl (fun c9 => V_aload_n (tat ok_X8_turned_0 (i := 13) (q := 22) rfl rfl) 0 rfl rfl <|
    V_getZ (tat ok_X8_turned_0 (i := 14) (q := 25) rfl rfl) fk_X8_106 rfl <|
    V_if_eq (tat ok_X8_turned_0 (i := 15) (q := 28) rfl rfl) rfl (fun c10 => V_pick [1, 2, 3] rfl (V_X8_turned_39  hr (jx (P := P) kk (Eq.trans (if_neg c1) (Eq.trans (if_pos c2) (Eq.trans (if_neg c8) (Eq.trans (if_pos c9) (if_pos c10)))))))) (fun c10 => V_aload_n (tat ok_X8_turned_0 (i := 16) (q := 29) rfl rfl) 0 rfl rfl <|
    V_aload_n (tat ok_X8_turned_0 (i := 17) (q := 30) rfl rfl) 1 rfl rfl <|
    V_getR (tat ok_X8_turned_0 (i := 18) (q := 33) rfl rfl) fk_X8_14 rfl rfl <|
    V_cv1 (ct_X0_sameSize I L 4 1 rfl rfl) mo_X0_sameSize (tat ok_X8_turned_0 (i := 19) (q := 36) rfl rfl) ml_X8_187 rfl ⟨by decide, _, rfl, rfl⟩ ⟨(Nat.le_of_ble_eq_true rfl), (Nat.le_of_ble_eq_true rfl)⟩ ⟨(Nat.le_of_ble_eq_true rfl), (Nat.le_of_ble_eq_true rfl)⟩ (Nat.le_of_ble_eq_true rfl) <|
    V_if_ne (tat ok_X8_turned_0 (i := 20) (q := 39) rfl rfl) rfl (fun c11 => V_aload_n (tat ok_X8_turned_0 (i := 23) (q := 43) rfl rfl) 1 rfl rfl <|
    V_getR (tat ok_X8_turned_0 (i := 24) (q := 46) rfl rfl) fk_X8_63 rfl rfl <|
    V_aload_n (tat ok_X8_turned_0 (i := 25) (q := 47) rfl rfl) 1 rfl rfl <|
    V_getR (tat ok_X8_turned_0 (i := 26) (q := 50) rfl rfl) fk_X8_14 rfl rfl <|
    V_aload_n (tat ok_X8_turned_0 (i := 27) (q := 51) rfl rfl) 1 rfl rfl <|
    V_getR (tat ok_X8_turned_0 (i := 28) (q := 54) rfl rfl) fk_X8_14 rfl rfl <|
    V_getL (tat ok_X8_turned_0 (i := 29) (q := 57) rfl rfl) fk_X8_137 rfl <|
    V_aload_n (tat ok_X8_turned_0 (i := 30) (q := 58) rfl rfl) 0 rfl rfl <|
    V_getL (tat ok_X8_turned_0 (i := 31) (q := 61) rfl rfl) fk_X8_137 rfl <|
    V_lxor (tat ok_X8_turned_0 (i := 32) (q := 62) rfl rfl) <|
    V_cv2v (ct_X7_findPlan I L 1 ((L 1 3) ^^^ (L 4 3)) rfl) mo_X7_findPlan (tat ok_X8_turned_0 (i := 33) (q := 65) rfl rfl) ml_X8_191 rfl ⟨by decide, _, rfl, rfl⟩ ⟨(Nat.le_of_ble_eq_true rfl), (Nat.le_of_ble_eq_true rfl)⟩ ⟨(Nat.le_of_ble_eq_true rfl), (Nat.le_of_ble_eq_true rfl)⟩ (Nat.le_of_ble_eq_true rfl) <|
    V_aload_n (tat ok_X8_turned_0 (i := 34) (q := 66) rfl rfl) 1 rfl rfl <|
    V_getR (tat ok_X8_turned_0 (i := 35) (q := 69) rfl rfl) fk_X8_63 rfl rfl <|
    V_getZ (tat ok_X8_turned_0 (i := 36) (q := 72) rfl rfl) fk_X8_195 rfl <|
    V_if_eq (tat ok_X8_turned_0 (i := 37) (q := 75) rfl rfl) rfl (fun c12 => V_bipush (tat ok_X8_turned_1 (i := 5) (q := 92) rfl rfl) bp_m4 <|
    V_pick [1, 2, 3] rfl (V_X8_turned_92  hr (jx (P := P) kk (Eq.trans (if_neg c1) (Eq.trans (if_pos c2) (Eq.trans (if_neg c8) (Eq.trans (if_pos c9) (Eq.trans (if_neg c10) (Eq.trans (if_neg c11) (if_pos c12)))))))))) (fun c12 => V_aload_n (tat ok_X8_turned_0 (i := 38) (q := 76) rfl rfl) 1 rfl rfl <|
    V_iload_n (tat ok_X8_turned_0 (i := 39) (q := 77) rfl rfl) 3 rfl rfl <|
    V_aload_n (tat ok_X8_turned_1 (i := 0) (q := 78) rfl rfl) 1 rfl rfl <|
    V_getR (tat ok_X8_turned_1 (i := 1) (q := 81) rfl rfl) fk_X8_63 rfl rfl <|
    V_cv0 (ct_X7_acts (F_X7_findPlan I 1 ((L 1 3) ^^^ (L 4 3))) L  ) mo_X7_acts (tat ok_X8_turned_1 (i := 2) (q := 84) rfl rfl) ml_X8_214 rfl ⟨by decide, _, rfl, rfl⟩ ⟨(Nat.le_of_ble_eq_true rfl), (Nat.le_of_ble_eq_true rfl)⟩ ⟨(Nat.le_of_ble_eq_true rfl), (Nat.le_of_ble_eq_true rfl)⟩ (Nat.le_of_ble_eq_true rfl) <|
    V_cv2 (ct_X8_toldOf (F_X7_findPlan I 1 ((L 1 3) ^^^ (L 4 3))) L a2 (F_X7_acts (F_X7_findPlan I 1 ((L 1 3) ^^^ (L 4 3)))) ) mo_X8_toldOf (tat ok_X8_turned_1 (i := 3) (q := 87) rfl rfl) ml_X8_217 rfl ⟨by decide, _, rfl, rfl⟩ ⟨(Nat.le_of_ble_eq_true rfl), (Nat.le_of_ble_eq_true rfl)⟩ ⟨(Nat.le_of_ble_eq_true rfl), (Nat.le_of_ble_eq_true rfl)⟩ (Nat.le_of_ble_eq_true rfl) <|
    V_goto (tat ok_X8_turned_1 (i := 4) (q := 90) rfl rfl) rfl <|
    V_pick [1, 2, 3] rfl (V_X8_turned_92  hr (jx (P := P) kk (Eq.trans (if_neg c1) (Eq.trans (if_pos c2) (Eq.trans (if_neg c8) (Eq.trans (if_pos c9) (Eq.trans (if_neg c10) (Eq.trans (if_neg c11) (if_neg c12))))))))))) (fun c11 => V_pick [1, 2, 3] rfl (V_X8_turned_39  hr (jx (P := P) kk (Eq.trans (if_neg c1) (Eq.trans (if_pos c2) (Eq.trans (if_neg c8) (Eq.trans (if_pos c9) (Eq.trans (if_neg c10) (if_pos c11))))))))))) (fun c9 => V_pick [1, 2, 3] rfl (V_X8_turned_19  hr (jx (P := P) kk (Eq.trans (if_neg c1) (Eq.trans (if_pos c2) (Eq.trans (if_neg c8) (if_neg c9)))))))) else V_cv1 (ct_imgN I L a1 c1 c2) mo_X8_imageOf (tat ok_X8_turned_0 (i := 2) (q := 5) rfl rfl) ml_X8_183 rfl ⟨by decide, _, rfl, rfl⟩ ⟨(Nat.le_of_ble_eq_true rfl), (Nat.le_of_ble_eq_true rfl)⟩ ⟨(Nat.le_of_ble_eq_true rfl), (Nat.le_of_ble_eq_true rfl)⟩ (Nat.le_of_ble_eq_true rfl) <|
    V_astoreN_n (lv' := [(3, .null), (0, .ref 0), (1, .int a1), (2, .int a2)]) (tat ok_X8_turned_0 (i := 3) (q := 6) rfl rfl) rfl (Nat.le_of_ble_eq_true rfl) rfl <|
    V_aloadN_n (tat ok_X8_turned_0 (i := 4) (q := 7) rfl rfl) 0 rfl rfl <|
    V_ifnullN (tat ok_X8_turned_0 (i := 5) (q := 10) rfl rfl) rfl <|
    V_pick [1, 2, 3] rfl (V_X8_turned_19  hr (jx (P := P) kk (Eq.trans (if_neg c1) (if_neg c2))))))
theorem ct_X8_turned  (I : WI) (L : WL) (a1 : Int32) (a2 : Int32)  : Ct x_X8_turned 7 [.ref 0, .int a1, .int a2] ly0 I L R0 0 0 (some (.int (p1 (F_X8_turned I L a1 a2))), ly0, (p2 (F_X8_turned I L a1 a2)), L, R0) :=
  Ct_of_V mo_X8_turned.1 (Nat.le_of_ble_eq_true rfl) (V_X8_turned (P := fun x => x = (F_X8_turned I L a1 a2))  (fun _ e => by rw [e]) rfl)
def F_X8_spoiltTold_34 (I : WI) (a1 : Int32) (s0 : Int32) : Int32 :=
  s0
theorem V_X8_spoiltTold_34  {I : WI} {L : WL} {a1 : Int32} {s0 : Int32} {P : Int32 → Prop} {t : Tg} (hr : ∀ v, P v → t = (some (.int v), ly0, I, L, R0)) (kk : P (F_X8_spoiltTold_34 I a1 s0)) : V (zM x_X8_spoiltTold 1 0 0 t) 34 [(0, .ref 0), (1, .int a1)] [.int s0] ly0 I L R0 0 0 :=
  V_iret (tat ok_X8_spoiltTold_0 (i := 15) (q := 35) rfl rfl) _ rfl (nar_int _) (hr s0 (jx (P := P) kk rfl)) ⟨(Nat.le_of_ble_eq_true rfl), (Nat.le_of_ble_eq_true rfl)⟩
def F_X8_spoiltTold (I : WI) (a1 : Int32) : Int32 :=
  (if a1 = 0 then (I 27 6) else (if (I 27 6) = 0 then (F_X8_spoiltTold_34 I a1 (-4)) else (F_X8_spoiltTold_34 I a1 (I 27 7))))
theorem V_X8_spoiltTold  {I : WI} {L : WL} {a1 : Int32}  {P : Int32 → Prop} {t : Tg} (hr : ∀ v, P v → t = (some (.int v), ly0, I, L, R0)) (kk : P (F_X8_spoiltTold I a1)) : V (zM x_X8_spoiltTold 1 0 0 t) 0 [(0, .ref 0), (1, .int a1)] [] ly0 I L R0 0 0 :=
  V_iload_n (tat ok_X8_spoiltTold_0 (i := 0) (q := 1) rfl rfl) 1 rfl rfl <|
    V_if_ne (tat ok_X8_spoiltTold_0 (i := 1) (q := 4) rfl rfl) rfl (fun c1 => V_aload_n (tat ok_X8_spoiltTold_0 (i := 6) (q := 13) rfl rfl) 0 rfl rfl <|
    V_getR (tat ok_X8_spoiltTold_0 (i := 7) (q := 16) rfl rfl) fk_X8_63 rfl rfl <|
    V_getI (tat ok_X8_spoiltTold_0 (i := 8) (q := 19) rfl rfl) fk_X8_333 rfl <|
    V_if_ne (tat ok_X8_spoiltTold_0 (i := 9) (q := 22) rfl rfl) rfl (fun c2 => V_aload_n (tat ok_X8_spoiltTold_0 (i := 12) (q := 28) rfl rfl) 0 rfl rfl <|
    V_getR (tat ok_X8_spoiltTold_0 (i := 13) (q := 31) rfl rfl) fk_X8_63 rfl rfl <|
    V_getI (tat ok_X8_spoiltTold_0 (i := 14) (q := 34) rfl rfl) fk_X8_334 rfl <|
    V_X8_spoiltTold_34  hr (jx (P := P) kk (Eq.trans (if_neg c1) (if_neg c2)))) (fun c2 => V_bipush (tat ok_X8_spoiltTold_0 (i := 10) (q := 24) rfl rfl) bp_m4 <|
    V_goto (tat ok_X8_spoiltTold_0 (i := 11) (q := 27) rfl rfl) rfl <|
    V_X8_spoiltTold_34  hr (jx (P := P) kk (Eq.trans (if_neg c1) (if_pos c2))))) (fun c1 => V_aload_n (tat ok_X8_spoiltTold_0 (i := 2) (q := 5) rfl rfl) 0 rfl rfl <|
    V_getR (tat ok_X8_spoiltTold_0 (i := 3) (q := 8) rfl rfl) fk_X8_63 rfl rfl <|
    V_getI (tat ok_X8_spoiltTold_0 (i := 4) (q := 11) rfl rfl) fk_X8_333 rfl <|
    V_iret (tat ok_X8_spoiltTold_0 (i := 5) (q := 12) rfl rfl) _ rfl (nar_int _) (hr (I 27 6) (jx (P := P) kk (if_pos c1))) ⟨(Nat.le_of_ble_eq_true rfl), (Nat.le_of_ble_eq_true rfl)⟩)
theorem ct_X8_spoiltTold  (I : WI) (L : WL) (a1 : Int32)  : Ct x_X8_spoiltTold 1 [.ref 0, .int a1] ly0 I L R0 0 0 (some (.int (F_X8_spoiltTold I a1)), ly0, I, L, R0) :=
  Ct_of_V mo_X8_spoiltTold.1 (Nat.le_of_ble_eq_true rfl) (V_X8_spoiltTold (P := fun x => x = (F_X8_spoiltTold I a1))  (fun _ e => by rw [e]) rfl)
def F_X8_spoilt_9 (I : WI) (L : WL) (a1 : Int32) : (Int32 × WI) :=
  ((-1), I)
theorem V_X8_spoilt_9  {I : WI} {L : WL} {a1 : Int32}  {P : (Int32 × WI) → Prop} {t : Tg} (hr : ∀ v, P v → t = (some (.int (p1 v)), ly0, (p2 v), L, R0)) (kk : P (F_X8_spoilt_9 I L a1)) : V (zM x_X8_spoilt 7 0 0 t) 9 [(0, .ref 0), (1, .int a1)] [] ly0 I L R0 0 0 :=
  V_iconst (tat ok_X8_spoilt_0 (i := 5) (q := 10) rfl rfl) ic_m1 <|
    V_iret (tat ok_X8_spoilt_0 (i := 6) (q := 11) rfl rfl) _ rfl (nar_int _) (hr ((-1), I) (jx (P := P) kk rfl)) ⟨(Nat.le_of_ble_eq_true rfl), (Nat.le_of_ble_eq_true rfl)⟩
def F_X8_spoilt (I : WI) (L : WL) (a1 : Int32) : (Int32 × WI) :=
  (if a1 < 0 then (F_X8_spoilt_9 I L a1) else (if a1 ≤ 1 then (if (bz (I 2 0)) = 0 then ((-2), I) else ((F_X8_spoiltTold (F_X7_findSpoilt I 1 ((L 1 3) ^^^ (L 2 3))) a1), (F_X7_findSpoilt I 1 ((L 1 3) ^^^ (L 2 3))))) else (F_X8_spoilt_9 I L a1)))
theorem V_X8_spoilt  {I : WI} {L : WL} {a1 : Int32}  {P : (Int32 × WI) → Prop} {t : Tg} (hr : ∀ v, P v → t = (some (.int (p1 v)), ly0, (p2 v), L, R0)) (kk : P (F_X8_spoilt I L a1)) : V (zM x_X8_spoilt 7 0 0 t) 0 [(0, .ref 0), (1, .int a1)] [] ly0 I L R0 0 0 :=
  V_iload_n (tat ok_X8_spoilt_0 (i := 0) (q := 1) rfl rfl) 1 rfl rfl <|
    V_if_lt (tat ok_X8_spoilt_0 (i := 1) (q := 4) rfl rfl) rfl (fun c1 => V_X8_spoilt_9  hr (jx (P := P) kk (if_pos c1))) (fun c1 => V_iload_n (tat ok_X8_spoilt_0 (i := 2) (q := 5) rfl rfl) 1 rfl rfl <|
    V_iconst (tat ok_X8_spoilt_0 (i := 3) (q := 6) rfl rfl) ic_1 <|
    V_icmp_le (tat ok_X8_spoilt_0 (i := 4) (q := 9) rfl rfl) rfl (fun c2 => V_aload_n (tat ok_X8_spoilt_0 (i := 7) (q := 12) rfl rfl) 0 rfl rfl <|
    V_getR (tat ok_X8_spoilt_0 (i := 8) (q := 15) rfl rfl) fk_X8_18 rfl rfl <|
    V_getZ (tat ok_X8_spoilt_0 (i := 9) (q := 18) rfl rfl) fk_X8_106 rfl <|
    V_if_ne (tat ok_X8_spoilt_0 (i := 10) (q := 21) rfl rfl) rfl (fun c3 => V_aload_n (tat ok_X8_spoilt_0 (i := 13) (q := 25) rfl rfl) 0 rfl rfl <|
    V_getR (tat ok_X8_spoilt_0 (i := 14) (q := 28) rfl rfl) fk_X8_63 rfl rfl <|
    V_aload_n (tat ok_X8_spoilt_0 (i := 15) (q := 29) rfl rfl) 0 rfl rfl <|
    V_getR (tat ok_X8_spoilt_0 (i := 16) (q := 32) rfl rfl) fk_X8_14 rfl rfl <|
    V_aload_n (tat ok_X8_spoilt_0 (i := 17) (q := 33) rfl rfl) 0 rfl rfl <|
    V_getR (tat ok_X8_spoilt_0 (i := 18) (q := 36) rfl rfl) fk_X8_14 rfl rfl <|
    V_getL (tat ok_X8_spoilt_0 (i := 19) (q := 39) rfl rfl) fk_X8_137 rfl <|
    V_aload_n (tat ok_X8_spoilt_0 (i := 20) (q := 40) rfl rfl) 0 rfl rfl <|
    V_getR (tat ok_X8_spoilt_0 (i := 21) (q := 43) rfl rfl) fk_X8_18 rfl rfl <|
    V_getL (tat ok_X8_spoilt_0 (i := 22) (q := 46) rfl rfl) fk_X8_137 rfl <|
    V_lxor (tat ok_X8_spoilt_0 (i := 23) (q := 47) rfl rfl) <|
    V_cv2v (ct_X7_findSpoilt I L 1 ((L 1 3) ^^^ (L 2 3)) rfl) mo_X7_findSpoilt (tat ok_X8_spoilt_0 (i := 24) (q := 50) rfl rfl) ml_X8_245 rfl ⟨by decide, _, rfl, rfl⟩ ⟨(Nat.le_of_ble_eq_true rfl), (Nat.le_of_ble_eq_true rfl)⟩ ⟨(Nat.le_of_ble_eq_true rfl), (Nat.le_of_ble_eq_true rfl)⟩ (Nat.le_of_ble_eq_true rfl) <|
    V_aload_n (tat ok_X8_spoilt_0 (i := 25) (q := 51) rfl rfl) 0 rfl rfl <|
    V_iload_n (tat ok_X8_spoilt_0 (i := 26) (q := 52) rfl rfl) 1 rfl rfl <|
    V_cv1 (ct_X8_spoiltTold (F_X7_findSpoilt I 1 ((L 1 3) ^^^ (L 2 3))) L a1 ) mo_X8_spoiltTold (tat ok_X8_spoilt_0 (i := 27) (q := 55) rfl rfl) ml_X8_248 rfl ⟨by decide, _, rfl, rfl⟩ ⟨(Nat.le_of_ble_eq_true rfl), (Nat.le_of_ble_eq_true rfl)⟩ ⟨(Nat.le_of_ble_eq_true rfl), (Nat.le_of_ble_eq_true rfl)⟩ (Nat.le_of_ble_eq_true rfl) <|
    V_iret (tat ok_X8_spoilt_0 (i := 28) (q := 56) rfl rfl) _ rfl (nar_int _) (hr ((F_X8_spoiltTold (F_X7_findSpoilt I 1 ((L 1 3) ^^^ (L 2 3))) a1), (F_X7_findSpoilt I 1 ((L 1 3) ^^^ (L 2 3)))) (jx (P := P) kk (Eq.trans (if_neg c1) (Eq.trans (if_pos c2) (if_neg c3))))) ⟨(Nat.le_of_ble_eq_true rfl), (Nat.le_of_ble_eq_true rfl)⟩) (fun c3 => V_bipush (tat ok_X8_spoilt_0 (i := 11) (q := 23) rfl rfl) bp_m2 <|
    V_iret (tat ok_X8_spoilt_0 (i := 12) (q := 24) rfl rfl) _ rfl (nar_int _) (hr ((-2), I) (jx (P := P) kk (Eq.trans (if_neg c1) (Eq.trans (if_pos c2) (if_pos c3))))) ⟨(Nat.le_of_ble_eq_true rfl), (Nat.le_of_ble_eq_true rfl)⟩)) (fun c2 => V_X8_spoilt_9  hr (jx (P := P) kk (Eq.trans (if_neg c1) (if_neg c2)))))
theorem ct_X8_spoilt  (I : WI) (L : WL) (a1 : Int32)  : Ct x_X8_spoilt 7 [.ref 0, .int a1] ly0 I L R0 0 0 (some (.int (p1 (F_X8_spoilt I L a1))), ly0, (p2 (F_X8_spoilt I L a1)), L, R0) :=
  Ct_of_V mo_X8_spoilt.1 (Nat.le_of_ble_eq_true rfl) (V_X8_spoilt (P := fun x => x = (F_X8_spoilt I L a1))  (fun _ e => by rw [e]) rfl)
def F_X8_both_9 (I : WI) (L : WL) (a1 : Int32) : Option (Int32 × WI × WL) :=
  some ((-1), I, L)
theorem V_X8_both_9  {I : WI} {L : WL} {a1 : Int32}  {P : (Int32 × WI × WL) → Prop} {t : Tg} (hr : ∀ v, P v → t = (some (.int (p1 v)), ly0, (p1 (p2 v)), (p2 (p2 v)), R0)) : oP P (F_X8_both_9 I L a1) → V (zM x_X8_both 7 0 0 t) 9 [(0, .ref 0), (1, .int a1)] [] ly0 I L R0 0 0 :=
  fun _ =>
  have kq : (oP P (F_X8_both_9 I L a1)) ∧ True := ⟨by assumption, trivial⟩
  V_iconst (tat ok_X8_both_0 (i := 5) (q := 10) rfl rfl) ic_m1 <|
    V_iret (tat ok_X8_both_0 (i := 6) (q := 11) rfl rfl) _ rfl (nar_int _) (hr ((-1), I, L) (jq (P := oP P) kq rfl)) ⟨(Nat.le_of_ble_eq_true rfl), (Nat.le_of_ble_eq_true rfl)⟩
def F_X8_both (I : WI) (L : WL) (a1 : Int32) : Option (Int32 × WI × WL) :=
  (if a1 < 0 then (F_X8_both_9 I L a1) else (if a1 ≤ 1 then (if (bz (I 2 0)) = 0 then some ((-2), I, L) else (Option.bind (F_X7_findBothSpoilt I L 1 ((L 1 3) ^^^ (L 2 3))) (fun v4 => some ((F_X8_spoiltTold (p1 v4) a1), (p1 v4), (p2 v4))))) else (F_X8_both_9 I L a1)))
theorem V_X8_both  {I : WI} {L : WL} {a1 : Int32}  {P : (Int32 × WI × WL) → Prop} {t : Tg} (hr : ∀ v, P v → t = (some (.int (p1 v)), ly0, (p1 (p2 v)), (p2 (p2 v)), R0)) : oP P (F_X8_both I L a1) → V (zM x_X8_both 7 0 0 t) 0 [(0, .ref 0), (1, .int a1)] [] ly0 I L R0 0 0 :=
  fun _ =>
  have kq : (oP P (F_X8_both I L a1)) ∧ True := ⟨by assumption, trivial⟩
  V_iload_n (tat ok_X8_both_0 (i := 0) (q := 1) rfl rfl) 1 rfl rfl <|
    V_if_lt (tat ok_X8_both_0 (i := 1) (q := 4) rfl rfl) rfl (fun c1 => V_X8_both_9  hr (jq (P := oP P) kq (if_pos c1))) (fun c1 => V_iload_n (tat ok_X8_both_0 (i := 2) (q := 5) rfl rfl) 1 rfl rfl <|
    V_iconst (tat ok_X8_both_0 (i := 3) (q := 6) rfl rfl) ic_1 <|
    V_icmp_le (tat ok_X8_both_0 (i := 4) (q := 9) rfl rfl) rfl (fun c2 => V_aload_n (tat ok_X8_both_0 (i := 7) (q := 12) rfl rfl) 0 rfl rfl <|
    V_getR (tat ok_X8_both_0 (i := 8) (q := 15) rfl rfl) fk_X8_18 rfl rfl <|
    V_getZ (tat ok_X8_both_0 (i := 9) (q := 18) rfl rfl) fk_X8_106 rfl <|
    V_if_ne (tat ok_X8_both_0 (i := 10) (q := 21) rfl rfl) rfl (fun c3 => V_aload_n (tat ok_X8_both_0 (i := 13) (q := 25) rfl rfl) 0 rfl rfl <|
    V_getR (tat ok_X8_both_0 (i := 14) (q := 28) rfl rfl) fk_X8_63 rfl rfl <|
    V_aload_n (tat ok_X8_both_0 (i := 15) (q := 29) rfl rfl) 0 rfl rfl <|
    V_getR (tat ok_X8_both_0 (i := 16) (q := 32) rfl rfl) fk_X8_14 rfl rfl <|
    V_aload_n (tat ok_X8_both_0 (i := 17) (q := 33) rfl rfl) 0 rfl rfl <|
    V_getR (tat ok_X8_both_0 (i := 18) (q := 36) rfl rfl) fk_X8_14 rfl rfl <|
    V_getL (tat ok_X8_both_0 (i := 19) (q := 39) rfl rfl) fk_X8_137 rfl <|
    V_aload_n (tat ok_X8_both_0 (i := 20) (q := 40) rfl rfl) 0 rfl rfl <|
    V_getR (tat ok_X8_both_0 (i := 21) (q := 43) rfl rfl) fk_X8_18 rfl rfl <|
    V_getL (tat ok_X8_both_0 (i := 22) (q := 46) rfl rfl) fk_X8_137 rfl <|
    V_lxor (tat ok_X8_both_0 (i := 23) (q := 47) rfl rfl) <|
    oP_case (jq (P := oP P) kq (Eq.trans (if_neg c1) (Eq.trans (if_pos c2) (if_neg c3)))) (fun v4 e4 _ => V_cv2v (ct_X7_findBothSpoilt I L 1 ((L 1 3) ^^^ (L 2 3)) rfl e4) mo_X7_findBothSpoilt (tat ok_X8_both_0 (i := 24) (q := 50) rfl rfl) ml_X8_251 rfl ⟨by decide, _, rfl, rfl⟩ ⟨(Nat.le_of_ble_eq_true rfl), (Nat.le_of_ble_eq_true rfl)⟩ ⟨(Nat.le_of_ble_eq_true rfl), (Nat.le_of_ble_eq_true rfl)⟩ (Nat.le_of_ble_eq_true rfl) <|
    V_aload_n (tat ok_X8_both_0 (i := 25) (q := 51) rfl rfl) 0 rfl rfl <|
    V_iload_n (tat ok_X8_both_0 (i := 26) (q := 52) rfl rfl) 1 rfl rfl <|
    V_cv1 (ct_X8_spoiltTold (p1 v4) (p2 v4) a1 ) mo_X8_spoiltTold (tat ok_X8_both_0 (i := 27) (q := 55) rfl rfl) ml_X8_248 rfl ⟨by decide, _, rfl, rfl⟩ ⟨(Nat.le_of_ble_eq_true rfl), (Nat.le_of_ble_eq_true rfl)⟩ ⟨(Nat.le_of_ble_eq_true rfl), (Nat.le_of_ble_eq_true rfl)⟩ (Nat.le_of_ble_eq_true rfl) <|
    V_iret (tat ok_X8_both_0 (i := 28) (q := 56) rfl rfl) _ rfl (nar_int _) (hr ((F_X8_spoiltTold (p1 v4) a1), (p1 v4), (p2 v4)) (jq (P := oP P) kq (Eq.trans (if_neg c1) (Eq.trans (if_pos c2) (Eq.trans (if_neg c3) (ob e4)))))) ⟨(Nat.le_of_ble_eq_true rfl), (Nat.le_of_ble_eq_true rfl)⟩)) (fun c3 => V_bipush (tat ok_X8_both_0 (i := 11) (q := 23) rfl rfl) bp_m2 <|
    V_iret (tat ok_X8_both_0 (i := 12) (q := 24) rfl rfl) _ rfl (nar_int _) (hr ((-2), I, L) (jq (P := oP P) kq (Eq.trans (if_neg c1) (Eq.trans (if_pos c2) (if_pos c3))))) ⟨(Nat.le_of_ble_eq_true rfl), (Nat.le_of_ble_eq_true rfl)⟩)) (fun c2 => V_X8_both_9  hr (jq (P := oP P) kq (Eq.trans (if_neg c1) (if_neg c2)))))
theorem ct_X8_both  (I : WI) (L : WL) (a1 : Int32)  {v : (Int32 × WI × WL)} (h : (F_X8_both I L a1) = some v) : Ct x_X8_both 7 [.ref 0, .int a1] ly0 I L R0 0 0 (some (.int (p1 v)), ly0, (p1 (p2 v)), (p2 (p2 v)), R0) :=
  Ct_of_V mo_X8_both.1 (Nat.le_of_ble_eq_true rfl) (V_X8_both (P := fun x => x = v)  (fun _ e => by rw [e]) (by rw [h]; exact rfl))
def F_X8_rotate_10 (I : WI) (L : WL) (a1 : Int32) : (Int32 × WI × WL) :=
  ((-1), I, L)
theorem V_X8_rotate_10  {I : WI} {L : WL} {a1 : Int32}  {P : (Int32 × WI × WL) → Prop} {t : Tg} (hr : ∀ v, P v → t = (some (.int (p1 v)), ly0, (p1 (p2 v)), (p2 (p2 v)), R0)) (kk : P (F_X8_rotate_10 I L a1)) : V (zM x_X8_rotate 4 0 0 t) 10 [(0, .ref 0), (1, .int a1)] [] ly0 I L R0 0 0 :=
  V_iconst (tat ok_X8_rotate_0 (i := 5) (q := 11) rfl rfl) ic_m1 <|
    V_iret (tat ok_X8_rotate_0 (i := 6) (q := 12) rfl rfl) _ rfl (nar_int _) (hr ((-1), I, L) (jx (P := P) kk rfl)) ⟨(Nat.le_of_ble_eq_true rfl), (Nat.le_of_ble_eq_true rfl)⟩
def F_X8_rotate (I : WI) (L : WL) (a1 : Int32) : (Int32 × WI × WL) :=
  (if a1 < 0 then (F_X8_rotate_10 I L a1) else (if a1 < 8 then (((F_X1_clear (p1 (F_X0_rotateBy (p1 (F_X0_rotateBy I L 1 a1)) (p2 (F_X0_rotateBy I L 1 a1)) 2 a1)) 6) 1 1), (F_X1_clear (p1 (F_X0_rotateBy (p1 (F_X0_rotateBy I L 1 a1)) (p2 (F_X0_rotateBy I L 1 a1)) 2 a1)) 6), (p2 (F_X0_rotateBy (p1 (F_X0_rotateBy I L 1 a1)) (p2 (F_X0_rotateBy I L 1 a1)) 2 a1))) else (F_X8_rotate_10 I L a1)))
theorem V_X8_rotate  {I : WI} {L : WL} {a1 : Int32}  {P : (Int32 × WI × WL) → Prop} {t : Tg} (hr : ∀ v, P v → t = (some (.int (p1 v)), ly0, (p1 (p2 v)), (p2 (p2 v)), R0)) (kk : P (F_X8_rotate I L a1)) : V (zM x_X8_rotate 4 0 0 t) 0 [(0, .ref 0), (1, .int a1)] [] ly0 I L R0 0 0 :=
  V_iload_n (tat ok_X8_rotate_0 (i := 0) (q := 1) rfl rfl) 1 rfl rfl <|
    V_if_lt (tat ok_X8_rotate_0 (i := 1) (q := 4) rfl rfl) rfl (fun c1 => V_X8_rotate_10  hr (jx (P := P) kk (if_pos c1))) (fun c1 => V_iload_n (tat ok_X8_rotate_0 (i := 2) (q := 5) rfl rfl) 1 rfl rfl <|
    V_bipush (tat ok_X8_rotate_0 (i := 3) (q := 7) rfl rfl) bp_8 <|
    V_icmp_lt (tat ok_X8_rotate_0 (i := 4) (q := 10) rfl rfl) rfl (fun c2 => V_aload_n (tat ok_X8_rotate_0 (i := 7) (q := 13) rfl rfl) 0 rfl rfl <|
    V_getR (tat ok_X8_rotate_0 (i := 8) (q := 16) rfl rfl) fk_X8_14 rfl rfl <|
    V_iload_n (tat ok_X8_rotate_0 (i := 9) (q := 17) rfl rfl) 1 rfl rfl <|
    V_cv1v (ct_X0_rotateBy I L 1 a1 rfl) mo_X0_rotateBy (tat ok_X8_rotate_0 (i := 10) (q := 20) rfl rfl) ml_X8_254 rfl ⟨by decide, _, rfl, rfl⟩ ⟨(Nat.le_of_ble_eq_true rfl), (Nat.le_of_ble_eq_true rfl)⟩ ⟨(Nat.le_of_ble_eq_true rfl), (Nat.le_of_ble_eq_true rfl)⟩ (Nat.le_of_ble_eq_true rfl) <|
    V_aload_n (tat ok_X8_rotate_0 (i := 11) (q := 21) rfl rfl) 0 rfl rfl <|
    V_getR (tat ok_X8_rotate_0 (i := 12) (q := 24) rfl rfl) fk_X8_18 rfl rfl <|
    V_iload_n (tat ok_X8_rotate_0 (i := 13) (q := 25) rfl rfl) 1 rfl rfl <|
    V_cv1v (ct_X0_rotateBy (p1 (F_X0_rotateBy I L 1 a1)) (p2 (F_X0_rotateBy I L 1 a1)) 2 a1 rfl) mo_X0_rotateBy (tat ok_X8_rotate_0 (i := 14) (q := 28) rfl rfl) ml_X8_254 rfl ⟨by decide, _, rfl, rfl⟩ ⟨(Nat.le_of_ble_eq_true rfl), (Nat.le_of_ble_eq_true rfl)⟩ ⟨(Nat.le_of_ble_eq_true rfl), (Nat.le_of_ble_eq_true rfl)⟩ (Nat.le_of_ble_eq_true rfl) <|
    V_aload_n (tat ok_X8_rotate_0 (i := 15) (q := 29) rfl rfl) 0 rfl rfl <|
    V_getR (tat ok_X8_rotate_0 (i := 16) (q := 32) rfl rfl) fk_X8_33 rfl rfl <|
    V_cv0v (ct_X1_clear (p1 (F_X0_rotateBy (p1 (F_X0_rotateBy I L 1 a1)) (p2 (F_X0_rotateBy I L 1 a1)) 2 a1)) (p2 (F_X0_rotateBy (p1 (F_X0_rotateBy I L 1 a1)) (p2 (F_X0_rotateBy I L 1 a1)) 2 a1)) 6 (⟨rfl, rfl, rfl, rfl, rfl⟩)) mo_X1_clear (tat ok_X8_rotate_0 (i := 17) (q := 35) rfl rfl) ml_X8_258 rfl ⟨by decide, _, rfl, rfl⟩ ⟨(Nat.le_of_ble_eq_true rfl), (Nat.le_of_ble_eq_true rfl)⟩ ⟨(Nat.le_of_ble_eq_true rfl), (Nat.le_of_ble_eq_true rfl)⟩ (Nat.le_of_ble_eq_true rfl) <|
    V_aload_n (tat ok_X8_rotate_0 (i := 18) (q := 36) rfl rfl) 0 rfl rfl <|
    V_getR (tat ok_X8_rotate_0 (i := 19) (q := 39) rfl rfl) fk_X8_14 rfl rfl <|
    V_getI (tat ok_X8_rotate_0 (i := 20) (q := 42) rfl rfl) fk_X8_117 rfl <|
    V_iret (tat ok_X8_rotate_0 (i := 21) (q := 43) rfl rfl) _ rfl (nar_int _) (hr (((F_X1_clear (p1 (F_X0_rotateBy (p1 (F_X0_rotateBy I L 1 a1)) (p2 (F_X0_rotateBy I L 1 a1)) 2 a1)) 6) 1 1), (F_X1_clear (p1 (F_X0_rotateBy (p1 (F_X0_rotateBy I L 1 a1)) (p2 (F_X0_rotateBy I L 1 a1)) 2 a1)) 6), (p2 (F_X0_rotateBy (p1 (F_X0_rotateBy I L 1 a1)) (p2 (F_X0_rotateBy I L 1 a1)) 2 a1))) (jx (P := P) kk (Eq.trans (if_neg c1) (if_pos c2)))) ⟨(Nat.le_of_ble_eq_true rfl), (Nat.le_of_ble_eq_true rfl)⟩) (fun c2 => V_X8_rotate_10  hr (jx (P := P) kk (Eq.trans (if_neg c1) (if_neg c2)))))
theorem ct_X8_rotate  (I : WI) (L : WL) (a1 : Int32)  : Ct x_X8_rotate 4 [.ref 0, .int a1] ly0 I L R0 0 0 (some (.int (p1 (F_X8_rotate I L a1))), ly0, (p1 (p2 (F_X8_rotate I L a1))), (p2 (p2 (F_X8_rotate I L a1))), R0) :=
  Ct_of_V mo_X8_rotate.1 (Nat.le_of_ble_eq_true rfl) (V_X8_rotate (P := fun x => x = (F_X8_rotate I L a1))  (fun _ e => by rw [e]) rfl)
def F_X8_isPart_26 (a0 : Int32) (a1 : Int32) (a2 : Int32) (s0 : Int32) : Int32 :=
  s0
theorem V_X8_isPart_26  {I : WI} {L : WL} {a0 : Int32} {a1 : Int32} {a2 : Int32} {s0 : Int32} {P : Int32 → Prop} {t : Tg} (hs0 : bz s0 = s0) (hr : ∀ v, P v → t = (some (.int v), ly0, I, L, R0)) (kk : P (F_X8_isPart_26 a0 a1 a2 s0)) : V (zM x_X8_isPart 1 0 0 t) 26 [(0, .int a0), (1, .int a1), (2, .int a2)] [.int s0] ly0 I L R0 0 0 :=
  V_iret (tat ok_X8_isPart_0 (i := 16) (q := 27) rfl rfl) _ rfl (bz_nf hs0).1 (hr s0 (jx (P := P) kk rfl)) ⟨(Nat.le_of_ble_eq_true rfl), (Nat.le_of_ble_eq_true rfl)⟩
def F_X8_isPart_25 (a0 : Int32) (a1 : Int32) (a2 : Int32) : Int32 :=
  (F_X8_isPart_26 a0 a1 a2 0)
theorem V_X8_isPart_25  {I : WI} {L : WL} {a0 : Int32} {a1 : Int32} {a2 : Int32}  {P : Int32 → Prop} {t : Tg} (hr : ∀ v, P v → t = (some (.int v), ly0, I, L, R0)) (kk : P (F_X8_isPart_25 a0 a1 a2)) : V (zM x_X8_isPart 1 0 0 t) 25 [(0, .int a0), (1, .int a1), (2, .int a2)] [] ly0 I L R0 0 0 :=
  V_iconst (tat ok_X8_isPart_0 (i := 15) (q := 26) rfl rfl) ic_0 <|
    V_X8_isPart_26 rfl hr (jx (P := P) kk rfl)
def F_X8_isPart (a0 : Int32) (a1 : Int32) (a2 : Int32) : Int32 :=
  (if a0 < 0 then (F_X8_isPart_25 a0 a1 a2) else (if a2 ≤ a0 then (F_X8_isPart_25 a0 a1 a2) else (if a1 < 1 then (F_X8_isPart_25 a0 a1 a2) else (if (a2 - a0) < a1 then (F_X8_isPart_25 a0 a1 a2) else (F_X8_isPart_26 a0 a1 a2 1)))))
theorem V_X8_isPart  {I : WI} {L : WL} {a0 : Int32} {a1 : Int32} {a2 : Int32}  {P : Int32 → Prop} {t : Tg} (hr : ∀ v, P v → t = (some (.int v), ly0, I, L, R0)) (kk : P (F_X8_isPart a0 a1 a2)) : V (zM x_X8_isPart 1 0 0 t) 0 [(0, .int a0), (1, .int a1), (2, .int a2)] [] ly0 I L R0 0 0 :=
  V_iload_n (tat ok_X8_isPart_0 (i := 0) (q := 1) rfl rfl) 0 rfl rfl <|
    V_if_lt (tat ok_X8_isPart_0 (i := 1) (q := 4) rfl rfl) rfl (fun c1 => V_X8_isPart_25  hr (jx (P := P) kk (if_pos c1))) (fun c1 => V_iload_n (tat ok_X8_isPart_0 (i := 2) (q := 5) rfl rfl) 0 rfl rfl <|
    V_iload_n (tat ok_X8_isPart_0 (i := 3) (q := 6) rfl rfl) 2 rfl rfl <|
    V_icmp_ge (tat ok_X8_isPart_0 (i := 4) (q := 9) rfl rfl) rfl (fun c2 => V_X8_isPart_25  hr (jx (P := P) kk (Eq.trans (if_neg c1) (if_pos c2)))) (fun c2 => V_iload_n (tat ok_X8_isPart_0 (i := 5) (q := 10) rfl rfl) 1 rfl rfl <|
    V_iconst (tat ok_X8_isPart_0 (i := 6) (q := 11) rfl rfl) ic_1 <|
    V_icmp_lt (tat ok_X8_isPart_0 (i := 7) (q := 14) rfl rfl) rfl (fun c3 => V_X8_isPart_25  hr (jx (P := P) kk (Eq.trans (if_neg c1) (Eq.trans (if_neg c2) (if_pos c3))))) (fun c3 => V_iload_n (tat ok_X8_isPart_0 (i := 8) (q := 15) rfl rfl) 1 rfl rfl <|
    V_iload_n (tat ok_X8_isPart_0 (i := 9) (q := 16) rfl rfl) 2 rfl rfl <|
    V_iload_n (tat ok_X8_isPart_0 (i := 10) (q := 17) rfl rfl) 0 rfl rfl <|
    V_isub (tat ok_X8_isPart_0 (i := 11) (q := 18) rfl rfl) <|
    V_icmp_gt (tat ok_X8_isPart_0 (i := 12) (q := 21) rfl rfl) rfl (fun c4 => V_X8_isPart_25  hr (jx (P := P) kk (Eq.trans (if_neg c1) (Eq.trans (if_neg c2) (Eq.trans (if_neg c3) (if_pos c4)))))) (fun c4 => V_iconst (tat ok_X8_isPart_0 (i := 13) (q := 22) rfl rfl) ic_1 <|
    V_goto (tat ok_X8_isPart_0 (i := 14) (q := 25) rfl rfl) rfl <|
    V_X8_isPart_26 rfl hr (jx (P := P) kk (Eq.trans (if_neg c1) (Eq.trans (if_neg c2) (Eq.trans (if_neg c3) (if_neg c4)))))))))
theorem ct_X8_isPart  (I : WI) (L : WL) (a0 : Int32) (a1 : Int32) (a2 : Int32)  : Ct x_X8_isPart 1 [.int a0, .int a1, .int a2] ly0 I L R0 0 0 (some (.int (F_X8_isPart a0 a1 a2)), ly0, I, L, R0) :=
  Ct_of_V mo_X8_isPart.1 (Nat.le_of_ble_eq_true rfl) (V_X8_isPart (P := fun x => x = (F_X8_isPart a0 a1 a2))  (fun _ e => by rw [e]) rfl)
def F_X8_forgetPlans (I : WI) : WI :=
  (F_X1_clear (u2 I 2 0 0) 6)
theorem V_X8_forgetPlans  {I : WI} {L : WL}   {P : WI → Prop} {t : Tg} (hr : ∀ v, P v → t = (none, ly0, v, L, R0)) (kk : P (F_X8_forgetPlans I)) : V (zM x_X8_forgetPlans 2 0 0 t) 0 [(0, .ref 0)] [] ly0 I L R0 0 0 :=
  V_aload_n (tat ok_X8_forgetPlans_0 (i := 0) (q := 1) rfl rfl) 0 rfl rfl <|
    V_getR (tat ok_X8_forgetPlans_0 (i := 1) (q := 4) rfl rfl) fk_X8_18 rfl rfl <|
    V_iconst (tat ok_X8_forgetPlans_0 (i := 2) (q := 5) rfl rfl) ic_0 <|
    V_putZ (tat ok_X8_forgetPlans_0 (i := 3) (q := 8) rfl rfl) fk_X8_106 rfl rfl rfl <|
    V_aload_n (tat ok_X8_forgetPlans_0 (i := 4) (q := 9) rfl rfl) 0 rfl rfl <|
    V_getR (tat ok_X8_forgetPlans_0 (i := 5) (q := 12) rfl rfl) fk_X8_33 rfl rfl <|
    V_cv0v (ct_X1_clear (u2 I 2 0 0) L 6 (⟨rfl, rfl, rfl, rfl, rfl⟩)) mo_X1_clear (tat ok_X8_forgetPlans_0 (i := 6) (q := 15) rfl rfl) ml_X8_258 rfl ⟨by decide, _, rfl, rfl⟩ ⟨(Nat.le_of_ble_eq_true rfl), (Nat.le_of_ble_eq_true rfl)⟩ ⟨(Nat.le_of_ble_eq_true rfl), (Nat.le_of_ble_eq_true rfl)⟩ (Nat.le_of_ble_eq_true rfl) <|
    V_vret (tat ok_X8_forgetPlans_0 (i := 7) (q := 16) rfl rfl) rfl (hr (F_X1_clear (u2 I 2 0 0) 6) (jx (P := P) kk rfl)) ⟨(Nat.le_of_ble_eq_true rfl), (Nat.le_of_ble_eq_true rfl)⟩
theorem ct_X8_forgetPlans  (I : WI) (L : WL)  : Ct x_X8_forgetPlans 2 [.ref 0] ly0 I L R0 0 0 (none, ly0, (F_X8_forgetPlans I), L, R0) :=
  Ct_of_V mo_X8_forgetPlans.1 (Nat.le_of_ble_eq_true rfl) (V_X8_forgetPlans (P := fun x => x = (F_X8_forgetPlans I))  (fun _ e => by rw [e]) rfl)
def F_X8_cut_31 (I : WI) (L : WL) (a1 : Int32) (a2 : Int32) (a3 : Int32) (a4 : Int32) : (Int32 × WI × WL) :=
  ((-1), I, L)
theorem V_X8_cut_31  {I : WI} {L : WL} {a1 : Int32} {a2 : Int32} {a3 : Int32} {a4 : Int32}  {P : (Int32 × WI × WL) → Prop} {t : Tg} (hr : ∀ v, P v → t = (some (.int (p1 v)), ly0, (p1 (p2 v)), (p2 (p2 v)), R0)) (kk : P (F_X8_cut_31 I L a1 a2 a3 a4)) : V (zM x_X8_cut 4 0 0 t) 31 [(0, .ref 0), (1, .int a1), (2, .int a2), (3, .int a3), (4, .int a4)] [] ly0 I L R0 0 0 :=
  V_iconst (tat ok_X8_cut_0 (i := 14) (q := 32) rfl rfl) ic_m1 <|
    V_iret (tat ok_X8_cut_0 (i := 15) (q := 33) rfl rfl) _ rfl (nar_int _) (hr ((-1), I, L) (jx (P := P) kk rfl)) ⟨(Nat.le_of_ble_eq_true rfl), (Nat.le_of_ble_eq_true rfl)⟩
def F_X8_cut (I : WI) (L : WL) (a1 : Int32) (a2 : Int32) (a3 : Int32) (a4 : Int32) : (Int32 × WI × WL) :=
  (if (F_X8_isPart a1 a2 (I 1 1)) = 0 then (F_X8_cut_31 I L a1 a2 a3 a4) else (if (F_X8_isPart a3 a4 (I 1 2)) = 0 then (F_X8_cut_31 I L a1 a2 a3 a4) else ((F_X0_darkSquares (p2 (F_X0_resize I L 1 a2 a4 (lush (L 1 3) ((8 * a1) + a3)))) 1), (F_X8_forgetPlans (p1 (F_X0_resize I L 1 a2 a4 (lush (L 1 3) ((8 * a1) + a3))))), (p2 (F_X0_resize I L 1 a2 a4 (lush (L 1 3) ((8 * a1) + a3)))))))
theorem V_X8_cut  {I : WI} {L : WL} {a1 : Int32} {a2 : Int32} {a3 : Int32} {a4 : Int32}  {P : (Int32 × WI × WL) → Prop} {t : Tg} (hr : ∀ v, P v → t = (some (.int (p1 v)), ly0, (p1 (p2 v)), (p2 (p2 v)), R0)) (kk : P (F_X8_cut I L a1 a2 a3 a4)) : V (zM x_X8_cut 4 0 0 t) 0 [(0, .ref 0), (1, .int a1), (2, .int a2), (3, .int a3), (4, .int a4)] [] ly0 I L R0 0 0 :=
  V_iload_n (tat ok_X8_cut_0 (i := 0) (q := 1) rfl rfl) 1 rfl rfl <|
    V_iload_n (tat ok_X8_cut_0 (i := 1) (q := 2) rfl rfl) 2 rfl rfl <|
    V_aload_n (tat ok_X8_cut_0 (i := 2) (q := 3) rfl rfl) 0 rfl rfl <|
    V_getR (tat ok_X8_cut_0 (i := 3) (q := 6) rfl rfl) fk_X8_14 rfl rfl <|
    V_getI (tat ok_X8_cut_0 (i := 4) (q := 9) rfl rfl) fk_X8_117 rfl <|
    V_cs3 (ct_X8_isPart I L a1 a2 (I 1 1) ) mo_X8_isPart (tat ok_X8_cut_0 (i := 5) (q := 12) rfl rfl) ml_X8_261 ⟨(Nat.le_of_ble_eq_true rfl), (Nat.le_of_ble_eq_true rfl)⟩ ⟨(Nat.le_of_ble_eq_true rfl), (Nat.le_of_ble_eq_true rfl)⟩ (Nat.le_of_ble_eq_true rfl) <|
    V_if_eq (tat ok_X8_cut_0 (i := 6) (q := 15) rfl rfl) rfl (fun c1 => V_X8_cut_31  hr (jx (P := P) kk (if_pos c1))) (fun c1 => V_iload_n (tat ok_X8_cut_0 (i := 7) (q := 16) rfl rfl) 3 rfl rfl <|
    V_iload (tat ok_X8_cut_0 (i := 8) (q := 18) rfl rfl) 4 rfl <|
    V_aload_n (tat ok_X8_cut_0 (i := 9) (q := 19) rfl rfl) 0 rfl rfl <|
    V_getR (tat ok_X8_cut_0 (i := 10) (q := 22) rfl rfl) fk_X8_14 rfl rfl <|
    V_getI (tat ok_X8_cut_0 (i := 11) (q := 25) rfl rfl) fk_X8_120 rfl <|
    V_cs3 (ct_X8_isPart I L a3 a4 (I 1 2) ) mo_X8_isPart (tat ok_X8_cut_0 (i := 12) (q := 28) rfl rfl) ml_X8_261 ⟨(Nat.le_of_ble_eq_true rfl), (Nat.le_of_ble_eq_true rfl)⟩ ⟨(Nat.le_of_ble_eq_true rfl), (Nat.le_of_ble_eq_true rfl)⟩ (Nat.le_of_ble_eq_true rfl) <|
    V_if_ne (tat ok_X8_cut_0 (i := 13) (q := 31) rfl rfl) rfl (fun c2 => V_aload_n (tat ok_X8_cut_0 (i := 16) (q := 34) rfl rfl) 0 rfl rfl <|
    V_getR (tat ok_X8_cut_0 (i := 17) (q := 37) rfl rfl) fk_X8_14 rfl rfl <|
    V_iload_n (tat ok_X8_cut_0 (i := 18) (q := 38) rfl rfl) 2 rfl rfl <|
    V_iload (tat ok_X8_cut_0 (i := 19) (q := 40) rfl rfl) 4 rfl <|
    V_aload_n (tat ok_X8_cut_0 (i := 20) (q := 41) rfl rfl) 0 rfl rfl <|
    V_getR (tat ok_X8_cut_0 (i := 21) (q := 44) rfl rfl) fk_X8_14 rfl rfl <|
    V_getL (tat ok_X8_cut_0 (i := 22) (q := 47) rfl rfl) fk_X8_137 rfl <|
    V_bipush (tat ok_X8_cut_0 (i := 23) (q := 49) rfl rfl) bp_8 <|
    V_iload_n (tat ok_X8_cut_0 (i := 24) (q := 50) rfl rfl) 1 rfl rfl <|
    V_imul (tat ok_X8_cut_0 (i := 25) (q := 51) rfl rfl) <|
    V_iload_n (tat ok_X8_cut_0 (i := 26) (q := 52) rfl rfl) 3 rfl rfl <|
    V_iadd (tat ok_X8_cut_0 (i := 27) (q := 53) rfl rfl) <|
    V_lushr (tat ok_X8_cut_0 (i := 28) (q := 54) rfl rfl) <|
    V_cv3v (ct_X0_resize I L 1 a2 a4 (lush (L 1 3) ((8 * a1) + a3)) rfl) mo_X0_resize (tat ok_X8_cut_0 (i := 29) (q := 57) rfl rfl) ml_X8_265 rfl ⟨by decide, _, rfl, rfl⟩ ⟨(Nat.le_of_ble_eq_true rfl), (Nat.le_of_ble_eq_true rfl)⟩ ⟨(Nat.le_of_ble_eq_true rfl), (Nat.le_of_ble_eq_true rfl)⟩ (Nat.le_of_ble_eq_true rfl) <|
    V_aload_n (tat ok_X8_cut_0 (i := 30) (q := 58) rfl rfl) 0 rfl rfl <|
    V_cv0v (ct_X8_forgetPlans (p1 (F_X0_resize I L 1 a2 a4 (lush (L 1 3) ((8 * a1) + a3)))) (p2 (F_X0_resize I L 1 a2 a4 (lush (L 1 3) ((8 * a1) + a3))))  ) mo_X8_forgetPlans (tat ok_X8_cut_0 (i := 31) (q := 61) rfl rfl) ml_X8_269 rfl ⟨by decide, _, rfl, rfl⟩ ⟨(Nat.le_of_ble_eq_true rfl), (Nat.le_of_ble_eq_true rfl)⟩ ⟨(Nat.le_of_ble_eq_true rfl), (Nat.le_of_ble_eq_true rfl)⟩ (Nat.le_of_ble_eq_true rfl) <|
    V_aload_n (tat ok_X8_cut_0 (i := 32) (q := 62) rfl rfl) 0 rfl rfl <|
    V_getR (tat ok_X8_cut_0 (i := 33) (q := 65) rfl rfl) fk_X8_14 rfl rfl <|
    V_cv0 (ct_X0_darkSquares (F_X8_forgetPlans (p1 (F_X0_resize I L 1 a2 a4 (lush (L 1 3) ((8 * a1) + a3))))) (p2 (F_X0_resize I L 1 a2 a4 (lush (L 1 3) ((8 * a1) + a3)))) 1 rfl) mo_X0_darkSquares (tat ok_X8_cut_0 (i := 34) (q := 68) rfl rfl) ml_X8_159 rfl ⟨by decide, _, rfl, rfl⟩ ⟨(Nat.le_of_ble_eq_true rfl), (Nat.le_of_ble_eq_true rfl)⟩ ⟨(Nat.le_of_ble_eq_true rfl), (Nat.le_of_ble_eq_true rfl)⟩ (Nat.le_of_ble_eq_true rfl) <|
    V_iret (tat ok_X8_cut_0 (i := 35) (q := 69) rfl rfl) _ rfl (nar_int _) (hr ((F_X0_darkSquares (p2 (F_X0_resize I L 1 a2 a4 (lush (L 1 3) ((8 * a1) + a3)))) 1), (F_X8_forgetPlans (p1 (F_X0_resize I L 1 a2 a4 (lush (L 1 3) ((8 * a1) + a3))))), (p2 (F_X0_resize I L 1 a2 a4 (lush (L 1 3) ((8 * a1) + a3))))) (jx (P := P) kk (Eq.trans (if_neg c1) (if_neg c2)))) ⟨(Nat.le_of_ble_eq_true rfl), (Nat.le_of_ble_eq_true rfl)⟩) (fun c2 => V_X8_cut_31  hr (jx (P := P) kk (Eq.trans (if_neg c1) (if_pos c2)))))
theorem ct_X8_cut  (I : WI) (L : WL) (a1 : Int32) (a2 : Int32) (a3 : Int32) (a4 : Int32)  : Ct x_X8_cut 4 [.ref 0, .int a1, .int a2, .int a3, .int a4] ly0 I L R0 0 0 (some (.int (p1 (F_X8_cut I L a1 a2 a3 a4))), ly0, (p1 (p2 (F_X8_cut I L a1 a2 a3 a4))), (p2 (p2 (F_X8_cut I L a1 a2 a3 a4))), R0) :=
  Ct_of_V mo_X8_cut.1 (Nat.le_of_ble_eq_true rfl) (V_X8_cut (P := fun x => x = (F_X8_cut I L a1 a2 a3 a4))  (fun _ e => by rw [e]) rfl)
def F_X8_sew_54 (I : WI) (L : WL) (a1 : Int32) (a2 : Int32) : (Int32 × WI × WL) :=
  ((-2), I, L)
theorem V_X8_sew_54  {I : WI} {L : WL} {a1 : Int32} {a2 : Int32}  {P : (Int32 × WI × WL) → Prop} {t : Tg} (hr : ∀ v, P v → t = (some (.int (p1 v)), ly0, (p1 (p2 v)), (p2 (p2 v)), R0)) (kk : P (F_X8_sew_54 I L a1 a2)) : V (zM x_X8_sew 4 0 0 t) 54 [(0, .ref 0), (1, .int a1), (2, .int a2)] [] ly0 I L R0 0 0 :=
  V_bipush (tat ok_X8_sew_0 (i := 26) (q := 56) rfl rfl) bp_m2 <|
    V_iret (tat ok_X8_sew_0 (i := 27) (q := 57) rfl rfl) _ rfl (nar_int _) (hr ((-2), I, L) (jx (P := P) kk rfl)) ⟨(Nat.le_of_ble_eq_true rfl), (Nat.le_of_ble_eq_true rfl)⟩
def F_X8_sew_127 (I : WI) (L : WL) (a1 : Int32) (a2 : Int32) : (Int32 × WI × WL) :=
  ((-3), I, L)
theorem V_X8_sew_127  {I : WI} {L : WL} {a1 : Int32} {a2 : Int32}  {P : (Int32 × WI × WL) → Prop} {t : Tg} (hr : ∀ v, P v → t = (some (.int (p1 v)), ly0, (p1 (p2 v)), (p2 (p2 v)), R0)) (kk : P (F_X8_sew_127 I L a1 a2)) : V (zM x_X8_sew 4 0 0 t) 127 [(0, .ref 0), (1, .int a1), (2, .int a2)] [] ly0 I L R0 0 0 :=
  V_bipush (tat ok_X8_sew_1 (i := 20) (q := 129) rfl rfl) bp_m3 <|
    V_iret (tat ok_X8_sew_1 (i := 21) (q := 130) rfl rfl) _ rfl (nar_int _) (hr ((-3), I, L) (jx (P := P) kk rfl)) ⟨(Nat.le_of_ble_eq_true rfl), (Nat.le_of_ble_eq_true rfl)⟩
def F_X8_sew_158 (I : WI) (L : WL) (a1 : Int32) (a2 : Int32) (a4 : Int32) (a5 : Int32) (s0 : Int32) (s1 : Int64) : (Int32 × WI × WL) :=
  ((F_X0_darkSquares (p2 (F_X0_resize I L 1 a4 a5 ((L 1 3) ||| (lsh s1 s0)))) 1), (F_X8_forgetPlans (p1 (F_X0_resize I L 1 a4 a5 ((L 1 3) ||| (lsh s1 s0))))), (p2 (F_X0_resize I L 1 a4 a5 ((L 1 3) ||| (lsh s1 s0)))))
theorem V_X8_sew_158  {I : WI} {L : WL} {a1 : Int32} {a2 : Int32} {a4 : Int32} {a5 : Int32} {s0 : Int32} {s1 : Int64} {P : (Int32 × WI × WL) → Prop} {t : Tg} (hr : ∀ v, P v → t = (some (.int (p1 v)), ly0, (p1 (p2 v)), (p2 (p2 v)), R0)) (kk : P (F_X8_sew_158 I L a1 a2 a4 a5 s0 s1)) : V (zM x_X8_sew 4 0 0 t) 158 [(0, .ref 0), (1, .int a1), (2, .int a2), (4, .int a4), (5, .int a5)] [.int s0, .long s1] ly0 I L R0 0 0 :=
  V_lshl (tat ok_X8_sew_1 (i := 35) (q := 159) rfl rfl) <|
    V_lstore (lv' := [(6, .long (lsh s1 s0)), (0, .ref 0), (1, .int a1), (2, .int a2), (4, .int a4), (5, .int a5)]) (tat ok_X8_sew_1 (i := 36) (q := 161) rfl rfl) (Nat.le_of_ble_eq_true rfl) rfl <|
    V_aload_n (tat ok_X8_sew_1 (i := 37) (q := 162) rfl rfl) 1 rfl rfl <|
    V_getR (tat ok_X8_sew_1 (i := 38) (q := 165) rfl rfl) fk_X8_14 rfl rfl <|
    V_iload (tat ok_X8_sew_1 (i := 39) (q := 167) rfl rfl) 4 rfl <|
    V_iload (tat ok_X8_sew_2 (i := 0) (q := 169) rfl rfl) 5 rfl <|
    V_aload_n (tat ok_X8_sew_2 (i := 1) (q := 170) rfl rfl) 1 rfl rfl <|
    V_getR (tat ok_X8_sew_2 (i := 2) (q := 173) rfl rfl) fk_X8_14 rfl rfl <|
    V_getL (tat ok_X8_sew_2 (i := 3) (q := 176) rfl rfl) fk_X8_137 rfl <|
    V_lload (tat ok_X8_sew_2 (i := 4) (q := 178) rfl rfl) 0 rfl <|
    V_lor (tat ok_X8_sew_2 (i := 5) (q := 179) rfl rfl) <|
    V_cv3v (ct_X0_resize I L 1 a4 a5 ((L 1 3) ||| (lsh s1 s0)) rfl) mo_X0_resize (tat ok_X8_sew_2 (i := 6) (q := 182) rfl rfl) ml_X8_265 rfl ⟨by decide, _, rfl, rfl⟩ ⟨(Nat.le_of_ble_eq_true rfl), (Nat.le_of_ble_eq_true rfl)⟩ ⟨(Nat.le_of_ble_eq_true rfl), (Nat.le_of_ble_eq_true rfl)⟩ (Nat.le_of_ble_eq_true rfl) <|
    V_aload_n (tat ok_X8_sew_2 (i := 7) (q := 183) rfl rfl) 1 rfl rfl <|
    V_cv0v (ct_X8_forgetPlans (p1 (F_X0_resize I L 1 a4 a5 ((L 1 3) ||| (lsh s1 s0)))) (p2 (F_X0_resize I L 1 a4 a5 ((L 1 3) ||| (lsh s1 s0))))  ) mo_X8_forgetPlans (tat ok_X8_sew_2 (i := 8) (q := 186) rfl rfl) ml_X8_269 rfl ⟨by decide, _, rfl, rfl⟩ ⟨(Nat.le_of_ble_eq_true rfl), (Nat.le_of_ble_eq_true rfl)⟩ ⟨(Nat.le_of_ble_eq_true rfl), (Nat.le_of_ble_eq_true rfl)⟩ (Nat.le_of_ble_eq_true rfl) <|
    V_aload_n (tat ok_X8_sew_2 (i := 9) (q := 187) rfl rfl) 1 rfl rfl <|
    V_getR (tat ok_X8_sew_2 (i := 10) (q := 190) rfl rfl) fk_X8_14 rfl rfl <|
    V_cv0 (ct_X0_darkSquares (F_X8_forgetPlans (p1 (F_X0_resize I L 1 a4 a5 ((L 1 3) ||| (lsh s1 s0))))) (p2 (F_X0_resize I L 1 a4 a5 ((L 1 3) ||| (lsh s1 s0)))) 1 rfl) mo_X0_darkSquares (tat ok_X8_sew_2 (i := 11) (q := 193) rfl rfl) ml_X8_159 rfl ⟨by decide, _, rfl, rfl⟩ ⟨(Nat.le_of_ble_eq_true rfl), (Nat.le_of_ble_eq_true rfl)⟩ ⟨(Nat.le_of_ble_eq_true rfl), (Nat.le_of_ble_eq_true rfl)⟩ (Nat.le_of_ble_eq_true rfl) <|
    V_iret (tat ok_X8_sew_2 (i := 12) (q := 194) rfl rfl) _ rfl (nar_int _) (hr ((F_X0_darkSquares (p2 (F_X0_resize I L 1 a4 a5 ((L 1 3) ||| (lsh s1 s0)))) 1), (F_X8_forgetPlans (p1 (F_X0_resize I L 1 a4 a5 ((L 1 3) ||| (lsh s1 s0))))), (p2 (F_X0_resize I L 1 a4 a5 ((L 1 3) ||| (lsh s1 s0))))) (jx (P := P) kk rfl)) ⟨(Nat.le_of_ble_eq_true rfl), (Nat.le_of_ble_eq_true rfl)⟩
def F_X8_sew_111 (I : WI) (L : WL) (a1 : Int32) (a2 : Int32) (r3 : Nat) (a4 : Int32) (s0 : Int32) : (Int32 × WI × WL) :=
  (if 8 < a4 then (F_X8_sew_127 I L a1 a2) else (if s0 ≤ 8 then (if a2 = 0 then (F_X8_sew_158 I L a1 a2 a4 s0 (I 1 2) (L r3 3)) else (F_X8_sew_158 I L a1 a2 a4 s0 (8 * (I 1 1)) (L r3 3))) else (F_X8_sew_127 I L a1 a2)))
theorem V_X8_sew_111  {I : WI} {L : WL} {a1 : Int32} {a2 : Int32} {r3 : Nat} {a4 : Int32} {s0 : Int32} {P : (Int32 × WI × WL) → Prop} {t : Tg} (hr3 : isX0 r3) (hr : ∀ v, P v → t = (some (.int (p1 v)), ly0, (p1 (p2 v)), (p2 (p2 v)), R0)) (kk : P (F_X8_sew_111 I L a1 a2 r3 a4 s0)) : V (zM x_X8_sew 4 0 0 t) 111 [(0, .ref 0), (1, .int a1), (2, .int a2), (3, .ref r3), (4, .int a4)] [.int s0] ly0 I L R0 0 0 :=
  V_istore (lv' := [(5, .int s0), (0, .ref 0), (1, .int a1), (2, .int a2), (3, .ref r3), (4, .int a4)]) (tat ok_X8_sew_1 (i := 13) (q := 113) rfl rfl) (Nat.le_of_ble_eq_true rfl) rfl <|
    V_iload (tat ok_X8_sew_1 (i := 14) (q := 115) rfl rfl) 5 rfl <|
    V_bipush (tat ok_X8_sew_1 (i := 15) (q := 117) rfl rfl) bp_8 <|
    V_icmp_gt (tat ok_X8_sew_1 (i := 16) (q := 120) rfl rfl) rfl (fun c8 => V_pick [1, 2, 3] rfl (V_X8_sew_127  hr (jx (P := P) kk (if_pos c8)))) (fun c8 => V_iload (tat ok_X8_sew_1 (i := 17) (q := 122) rfl rfl) 0 rfl <|
    V_bipush (tat ok_X8_sew_1 (i := 18) (q := 124) rfl rfl) bp_8 <|
    V_icmp_le (tat ok_X8_sew_1 (i := 19) (q := 127) rfl rfl) rfl (fun c9 => V_aload_n (tat ok_X8_sew_1 (i := 22) (q := 131) rfl rfl) 4 rfl rfl <|
    V_getL (tat ok_X8_sew_1 (i := 23) (q := 134) rfl rfl) fk_X8_137 hr3 <|
    V_iload_n (tat ok_X8_sew_1 (i := 24) (q := 135) rfl rfl) 3 rfl rfl <|
    V_if_eq (tat ok_X8_sew_1 (i := 25) (q := 138) rfl rfl) rfl (fun c10 => V_aload_n (tat ok_X8_sew_1 (i := 32) (q := 152) rfl rfl) 1 rfl rfl <|
    V_getR (tat ok_X8_sew_1 (i := 33) (q := 155) rfl rfl) fk_X8_14 rfl rfl <|
    V_getI (tat ok_X8_sew_1 (i := 34) (q := 158) rfl rfl) fk_X8_120 rfl <|
    V_pick [1, 2, 3, 5, 0] rfl (V_X8_sew_158  hr (jx (P := P) kk (Eq.trans (if_neg c8) (Eq.trans (if_pos c9) (if_pos c10)))))) (fun c10 => V_bipush (tat ok_X8_sew_1 (i := 26) (q := 140) rfl rfl) bp_8 <|
    V_aload_n (tat ok_X8_sew_1 (i := 27) (q := 141) rfl rfl) 1 rfl rfl <|
    V_getR (tat ok_X8_sew_1 (i := 28) (q := 144) rfl rfl) fk_X8_14 rfl rfl <|
    V_getI (tat ok_X8_sew_1 (i := 29) (q := 147) rfl rfl) fk_X8_117 rfl <|
    V_imul (tat ok_X8_sew_1 (i := 30) (q := 148) rfl rfl) <|
    V_goto (tat ok_X8_sew_1 (i := 31) (q := 151) rfl rfl) rfl <|
    V_pick [1, 2, 3, 5, 0] rfl (V_X8_sew_158  hr (jx (P := P) kk (Eq.trans (if_neg c8) (Eq.trans (if_pos c9) (if_neg c10))))))) (fun c9 => V_pick [1, 2, 3] rfl (V_X8_sew_127  hr (jx (P := P) kk (Eq.trans (if_neg c8) (if_neg c9))))))
def F_X8_sew_83 (I : WI) (L : WL) (a1 : Int32) (a2 : Int32) (r3 : Nat) (s0 : Int32) : (Int32 × WI × WL) :=
  (if a2 = 0 then (F_X8_sew_111 I L a1 a2 r3 s0 ((I 1 2) + (I r3 2))) else (F_X8_sew_111 I L a1 a2 r3 s0 (I 1 2)))
theorem V_X8_sew_83  {I : WI} {L : WL} {a1 : Int32} {a2 : Int32} {r3 : Nat} {s0 : Int32} {P : (Int32 × WI × WL) → Prop} {t : Tg} (hr3 : isX0 r3) (hr : ∀ v, P v → t = (some (.int (p1 v)), ly0, (p1 (p2 v)), (p2 (p2 v)), R0)) (kk : P (F_X8_sew_83 I L a1 a2 r3 s0)) : V (zM x_X8_sew 4 0 0 t) 83 [(0, .ref 0), (1, .int a1), (2, .int a2), (3, .ref r3)] [.int s0] ly0 I L R0 0 0 :=
  V_istore (lv' := [(4, .int s0), (0, .ref 0), (1, .int a1), (2, .int a2), (3, .ref r3)]) (tat ok_X8_sew_1 (i := 0) (q := 85) rfl rfl) (Nat.le_of_ble_eq_true rfl) rfl <|
    V_iload_n (tat ok_X8_sew_1 (i := 1) (q := 86) rfl rfl) 3 rfl rfl <|
    V_if_eq (tat ok_X8_sew_1 (i := 2) (q := 89) rfl rfl) rfl (fun c7 => V_aload_n (tat ok_X8_sew_1 (i := 7) (q := 100) rfl rfl) 1 rfl rfl <|
    V_getR (tat ok_X8_sew_1 (i := 8) (q := 103) rfl rfl) fk_X8_14 rfl rfl <|
    V_getI (tat ok_X8_sew_1 (i := 9) (q := 106) rfl rfl) fk_X8_120 rfl <|
    V_aload_n (tat ok_X8_sew_1 (i := 10) (q := 107) rfl rfl) 4 rfl rfl <|
    V_getI (tat ok_X8_sew_1 (i := 11) (q := 110) rfl rfl) fk_X8_120 hr3 <|
    V_iadd (tat ok_X8_sew_1 (i := 12) (q := 111) rfl rfl) <|
    V_pick [1, 2, 3, 4, 0] rfl (V_X8_sew_111 hr3 hr (jx (P := P) kk (if_pos c7)))) (fun c7 => V_aload_n (tat ok_X8_sew_1 (i := 3) (q := 90) rfl rfl) 1 rfl rfl <|
    V_getR (tat ok_X8_sew_1 (i := 4) (q := 93) rfl rfl) fk_X8_14 rfl rfl <|
    V_getI (tat ok_X8_sew_1 (i := 5) (q := 96) rfl rfl) fk_X8_120 rfl <|
    V_goto (tat ok_X8_sew_1 (i := 6) (q := 99) rfl rfl) rfl <|
    V_pick [1, 2, 3, 4, 0] rfl (V_X8_sew_111 hr3 hr (jx (P := P) kk (if_neg c7))))
def F_X8_sew_57 (I : WI) (L : WL) (a1 : Int32) (a2 : Int32) (r3 : Nat) : (Int32 × WI × WL) :=
  (if a2 = 0 then (F_X8_sew_83 I L a1 a2 r3 (I 1 1)) else (F_X8_sew_83 I L a1 a2 r3 ((I 1 1) + (I r3 1))))
theorem V_X8_sew_57  {I : WI} {L : WL} {a1 : Int32} {a2 : Int32} {r3 : Nat} {P : (Int32 × WI × WL) → Prop} {t : Tg} (hr3 : isX0 r3) (hr : ∀ v, P v → t = (some (.int (p1 v)), ly0, (p1 (p2 v)), (p2 (p2 v)), R0)) (kk : P (F_X8_sew_57 I L a1 a2 r3)) : V (zM x_X8_sew 4 0 0 t) 57 [(0, .ref 0), (1, .int a1), (2, .int a2), (3, .ref r3)] [] ly0 I L R0 0 0 :=
  V_iload_n (tat ok_X8_sew_0 (i := 28) (q := 58) rfl rfl) 2 rfl rfl <|
    V_if_eq (tat ok_X8_sew_0 (i := 29) (q := 61) rfl rfl) rfl (fun c6 => V_aload_n (tat ok_X8_sew_0 (i := 37) (q := 77) rfl rfl) 0 rfl rfl <|
    V_getR (tat ok_X8_sew_0 (i := 38) (q := 80) rfl rfl) fk_X8_14 rfl rfl <|
    V_getI (tat ok_X8_sew_0 (i := 39) (q := 83) rfl rfl) fk_X8_117 rfl <|
    V_X8_sew_83 hr3 hr (jx (P := P) kk (if_pos c6))) (fun c6 => V_aload_n (tat ok_X8_sew_0 (i := 30) (q := 62) rfl rfl) 0 rfl rfl <|
    V_getR (tat ok_X8_sew_0 (i := 31) (q := 65) rfl rfl) fk_X8_14 rfl rfl <|
    V_getI (tat ok_X8_sew_0 (i := 32) (q := 68) rfl rfl) fk_X8_117 rfl <|
    V_aload_n (tat ok_X8_sew_0 (i := 33) (q := 69) rfl rfl) 3 rfl rfl <|
    V_getI (tat ok_X8_sew_0 (i := 34) (q := 72) rfl rfl) fk_X8_117 hr3 <|
    V_iadd (tat ok_X8_sew_0 (i := 35) (q := 73) rfl rfl) <|
    V_goto (tat ok_X8_sew_0 (i := 36) (q := 76) rfl rfl) rfl <|
    V_X8_sew_83 hr3 hr (jx (P := P) kk (if_neg c6)))
def F_X8_sew (I : WI) (L : WL) (a1 : Int32) (a2 : Int32) : (Int32 × WI × WL) :=
  (if a1 = 0 then (if (bz (I 3 0)) = 0 then (F_X8_sew_54 I L a1 a2) else (if a2 = 0 then (if (I 3 1) = (I 1 1) then (F_X8_sew_57 I L a1 a2 3) else (F_X8_sew_54 I L a1 a2)) else (if (I 3 2) = (I 1 2) then (F_X8_sew_57 I L a1 a2 3) else (F_X8_sew_54 I L a1 a2)))) else (if a1 = 1 then (if (bz (I 4 0)) = 0 then (F_X8_sew_54 I L a1 a2) else (if a2 = 0 then (if (I 4 1) = (I 1 1) then (F_X8_sew_57 I L a1 a2 4) else (F_X8_sew_54 I L a1 a2)) else (if (I 4 2) = (I 1 2) then (F_X8_sew_57 I L a1 a2 4) else (F_X8_sew_54 I L a1 a2)))) else ((-1), I, L)))
theorem V_X8_sew  {I : WI} {L : WL} {a1 : Int32} {a2 : Int32}  {P : (Int32 × WI × WL) → Prop} {t : Tg} (hr : ∀ v, P v → t = (some (.int (p1 v)), ly0, (p1 (p2 v)), (p2 (p2 v)), R0)) (kk : P (F_X8_sew I L a1 a2)) : V (zM x_X8_sew 4 0 0 t) 0 [(0, .ref 0), (1, .int a1), (2, .int a2)] [] ly0 I L R0 0 0 :=
  V_aload_n (tat ok_X8_sew_0 (i := 0) (q := 1) rfl rfl) 0 rfl rfl <|
    V_iload_n (tat ok_X8_sew_0 (i := 1) (q := 2) rfl rfl) 1 rfl rfl <|
    (if c1 : a1 = 0 then V_cv1 (ct_img0 I L a1 c1) mo_X8_imageOf (tat ok_X8_sew_0 (i := 2) (q := 5) rfl rfl) ml_X8_183 rfl ⟨by decide, _, rfl, rfl⟩ ⟨(Nat.le_of_ble_eq_true rfl), (Nat.le_of_ble_eq_true rfl)⟩ ⟨(Nat.le_of_ble_eq_true rfl), (Nat.le_of_ble_eq_true rfl)⟩ (Nat.le_of_ble_eq_true rfl) <|
    V_astore_n (lv' := [(3, .ref 3), (0, .ref 0), (1, .int a1), (2, .int a2)]) (tat ok_X8_sew_0 (i := 3) (q := 6) rfl rfl) rfl (by decide) (Nat.le_of_ble_eq_true rfl) rfl <|
    V_aload_n (tat ok_X8_sew_0 (i := 4) (q := 7) rfl rfl) 0 rfl rfl <|
    V_ifnonnull (tat ok_X8_sew_0 (i := 5) (q := 10) rfl rfl) (by decide) rfl <|
    V_aload_n (tat ok_X8_sew_0 (i := 8) (q := 13) rfl rfl) 0 rfl rfl <|
    V_getZ (tat ok_X8_sew_0 (i := 9) (q := 16) rfl rfl) fk_X8_106 rfl <|
    V_if_eq (tat ok_X8_sew_0 (i := 10) (q := 19) rfl rfl) rfl (fun c3 => V_pick [1, 2, 3] rfl (V_X8_sew_54  hr (jx (P := P) kk (Eq.trans (if_pos c1) (if_pos c3))))) (fun c3 => V_iload_n (tat ok_X8_sew_0 (i := 11) (q := 20) rfl rfl) 3 rfl rfl <|
    V_if_eq (tat ok_X8_sew_0 (i := 12) (q := 23) rfl rfl) rfl (fun c4 => V_aload_n (tat ok_X8_sew_0 (i := 20) (q := 41) rfl rfl) 0 rfl rfl <|
    V_getI (tat ok_X8_sew_0 (i := 21) (q := 44) rfl rfl) fk_X8_117 rfl <|
    V_aload_n (tat ok_X8_sew_0 (i := 22) (q := 45) rfl rfl) 1 rfl rfl <|
    V_getR (tat ok_X8_sew_0 (i := 23) (q := 48) rfl rfl) fk_X8_14 rfl rfl <|
    V_getI (tat ok_X8_sew_0 (i := 24) (q := 51) rfl rfl) fk_X8_117 rfl <|
    V_icmp_eq (tat ok_X8_sew_0 (i := 25) (q := 54) rfl rfl) rfl (fun c5 => V_pick [1, 2, 3, 0] rfl (V_X8_sew_57 rfl hr (jx (P := P) kk (Eq.trans (if_pos c1) (Eq.trans (if_neg c3) (Eq.trans (if_pos c4) (if_pos c5))))))) (fun c5 => V_pick [1, 2, 3] rfl (V_X8_sew_54  hr (jx (P := P) kk (Eq.trans (if_pos c1) (Eq.trans (if_neg c3) (Eq.trans (if_pos c4) (if_neg c5)))))))) (fun c4 => V_aload_n (tat ok_X8_sew_0 (i := 13) (q := 24) rfl rfl) 0 rfl rfl <|
    V_getI (tat ok_X8_sew_0 (i := 14) (q := 27) rfl rfl) fk_X8_120 rfl <|
    V_aload_n (tat ok_X8_sew_0 (i := 15) (q := 28) rfl rfl) 1 rfl rfl <|
    V_getR (tat ok_X8_sew_0 (i := 16) (q := 31) rfl rfl) fk_X8_14 rfl rfl <|
    V_getI (tat ok_X8_sew_0 (i := 17) (q := 34) rfl rfl) fk_X8_120 rfl <|
    V_icmp_eq (tat ok_X8_sew_0 (i := 18) (q := 37) rfl rfl) rfl (fun c11 => V_pick [1, 2, 3, 0] rfl (V_X8_sew_57 rfl hr (jx (P := P) kk (Eq.trans (if_pos c1) (Eq.trans (if_neg c3) (Eq.trans (if_neg c4) (if_pos c11))))))) (fun c11 => V_goto (tat ok_X8_sew_0 (i := 19) (q := 40) rfl rfl) rfl <|
    V_pick [1, 2, 3] rfl (V_X8_sew_54  hr (jx (P := P) kk (Eq.trans (if_pos c1) (Eq.trans (if_neg c3) (Eq.trans (if_neg c4) (if_neg c11))))))))) else (if c2 : a1 = 1 then V_cv1 (ct_img1 I L a1 c2) mo_X8_imageOf (tat ok_X8_sew_0 (i := 2) (q := 5) rfl rfl) ml_X8_183 rfl ⟨by decide, _, rfl, rfl⟩ ⟨(Nat.le_of_ble_eq_true rfl), (Nat.le_of_ble_eq_true rfl)⟩ ⟨(Nat.le_of_ble_eq_true rfl), (Nat.le_of_ble_eq_true rfl)⟩ (Nat.le_of_ble_eq_true rfl) <|
    V_astore_n (lv' := [(3, .ref 4), (0, .ref 0), (1, .int a1), (2, .int a2)]) (tat ok_X8_sew_0 (i := 3) (q := 6) rfl rfl) rfl (by decide) (Nat.le_of_ble_eq_true rfl) rfl <|
    V_aload_n (tat ok_X8_sew_0 (i := 4) (q := 7) rfl rfl) 0 rfl rfl <|
    V_ifnonnull (tat ok_X8_sew_0 (i := 5) (q := 10) rfl rfl) (by decide) rfl <|
    V_aload_n (tat ok_X8_sew_0 (i := 8) (q := 13) rfl rfl) 0 rfl rfl <|
    V_getZ (tat ok_X8_sew_0 (i := 9) (q := 16) rfl rfl) fk_X8_106 rfl <|
    V_if_eq (tat ok_X8_sew_0 (i := 10) (q := 19) rfl rfl) rfl (fun c12 => V_pick [1, 2, 3] rfl (V_X8_sew_54  hr (jx (P := P) kk (Eq.trans (if_neg c1) (Eq.trans (if_pos c2) (if_pos c12)))))) (fun c12 => V_iload_n (tat ok_X8_sew_0 (i := 11) (q := 20) rfl rfl) 3 rfl rfl <|
    V_if_eq (tat ok_X8_sew_0 (i := 12) (q := 23) rfl rfl) rfl (fun c13 => V_aload_n (tat ok_X8_sew_0 (i := 20) (q := 41) rfl rfl) 0 rfl rfl <|
    V_getI (tat ok_X8_sew_0 (i := 21) (q := 44) rfl rfl) fk_X8_117 rfl <|
    V_aload_n (tat ok_X8_sew_0 (i := 22) (q := 45) rfl rfl) 1 rfl rfl <|
    V_getR (tat ok_X8_sew_0 (i := 23) (q := 48) rfl rfl) fk_X8_14 rfl rfl <|
    V_getI (tat ok_X8_sew_0 (i := 24) (q := 51) rfl rfl) fk_X8_117 rfl <|
    V_icmp_eq (tat ok_X8_sew_0 (i := 25) (q := 54) rfl rfl) rfl (fun c14 => V_pick [1, 2, 3, 0] rfl (V_X8_sew_57 rfl hr (jx (P := P) kk (Eq.trans (if_neg c1) (Eq.trans (if_pos c2) (Eq.trans (if_neg c12) (Eq.trans (if_pos c13) (if_pos c14)))))))) (fun c14 => V_pick [1, 2, 3] rfl (V_X8_sew_54  hr (jx (P := P) kk (Eq.trans (if_neg c1) (Eq.trans (if_pos c2) (Eq.trans (if_neg c12) (Eq.trans (if_pos c13) (if_neg c14))))))))) (fun c13 => V_aload_n (tat ok_X8_sew_0 (i := 13) (q := 24) rfl rfl) 0 rfl rfl <|
    V_getI (tat ok_X8_sew_0 (i := 14) (q := 27) rfl rfl) fk_X8_120 rfl <|
    V_aload_n (tat ok_X8_sew_0 (i := 15) (q := 28) rfl rfl) 1 rfl rfl <|
    V_getR (tat ok_X8_sew_0 (i := 16) (q := 31) rfl rfl) fk_X8_14 rfl rfl <|
    V_getI (tat ok_X8_sew_0 (i := 17) (q := 34) rfl rfl) fk_X8_120 rfl <|
    V_icmp_eq (tat ok_X8_sew_0 (i := 18) (q := 37) rfl rfl) rfl (fun c15 => V_pick [1, 2, 3, 0] rfl (V_X8_sew_57 rfl hr (jx (P := P) kk (Eq.trans (if_neg c1) (Eq.trans (if_pos c2) (Eq.trans (if_neg c12) (Eq.trans (if_neg c13) (if_pos c15)))))))) (fun c15 => V_goto (tat ok_X8_sew_0 (i := 19) (q := 40) rfl rfl) rfl <|
    V_pick [1, 2, 3] rfl (V_X8_sew_54  hr (jx (P := P) kk (Eq.trans (if_neg c1) (Eq.trans (if_pos c2) (Eq.trans (if_neg c12) (Eq.trans (if_neg c13) (if_neg c15)))))))))) else V_cv1 (ct_imgN I L a1 c1 c2) mo_X8_imageOf (tat ok_X8_sew_0 (i := 2) (q := 5) rfl rfl) ml_X8_183 rfl ⟨by decide, _, rfl, rfl⟩ ⟨(Nat.le_of_ble_eq_true rfl), (Nat.le_of_ble_eq_true rfl)⟩ ⟨(Nat.le_of_ble_eq_true rfl), (Nat.le_of_ble_eq_true rfl)⟩ (Nat.le_of_ble_eq_true rfl) <|
    V_astoreN_n (lv' := [(3, .null), (0, .ref 0), (1, .int a1), (2, .int a2)]) (tat ok_X8_sew_0 (i := 3) (q := 6) rfl rfl) rfl (Nat.le_of_ble_eq_true rfl) rfl <|
    V_aloadN_n (tat ok_X8_sew_0 (i := 4) (q := 7) rfl rfl) 0 rfl rfl <|
    V_ifnonnullN (tat ok_X8_sew_0 (i := 5) (q := 10) rfl rfl) <|
    V_iconst (tat ok_X8_sew_0 (i := 6) (q := 11) rfl rfl) ic_m1 <|
    V_iret (tat ok_X8_sew_0 (i := 7) (q := 12) rfl rfl) _ rfl (nar_int _) (hr ((-1), I, L) (jx (P := P) kk (Eq.trans (if_neg c1) (if_neg c2)))) ⟨(Nat.le_of_ble_eq_true rfl), (Nat.le_of_ble_eq_true rfl)⟩))
theorem ct_X8_sew  (I : WI) (L : WL) (a1 : Int32) (a2 : Int32)  : Ct x_X8_sew 4 [.ref 0, .int a1, .int a2] ly0 I L R0 0 0 (some (.int (p1 (F_X8_sew I L a1 a2))), ly0, (p1 (p2 (F_X8_sew I L a1 a2))), (p2 (p2 (F_X8_sew I L a1 a2))), R0) :=
  Ct_of_V mo_X8_sew.1 (Nat.le_of_ble_eq_true rfl) (V_X8_sew (P := fun x => x = (F_X8_sew I L a1 a2))  (fun _ e => by rw [e]) rfl)
def F_X8_name_9 (I : WI) (L : WL) (a1 : Int32) : (Int64 × WI × WL) :=
  ((-1), I, L)
theorem V_X8_name_9  {I : WI} {L : WL} {a1 : Int32}  {P : (Int64 × WI × WL) → Prop} {t : Tg} (hr : ∀ v, P v → t = (some (.long (p1 v)), ly0, (p1 (p2 v)), (p2 (p2 v)), R0)) (kk : P (F_X8_name_9 I L a1)) : V (zM x_X8_name 7 0 0 t) 9 [(0, .ref 0), (1, .int a1)] [] ly0 I L R0 0 0 :=
  V_ldc2 (tat ok_X8_name_0 (i := 5) (q := 12) rfl rfl) (gw_in kl_X8_181 rfl) <|
    V_lret (tat ok_X8_name_0 (i := 6) (q := 13) rfl rfl) rfl (hr ((-1), I, L) (jx (P := P) kk rfl)) ⟨(Nat.le_of_ble_eq_true rfl), (Nat.le_of_ble_eq_true rfl)⟩
def F_X8_name_50 (I : WI) (L : WL) (a1 : Int32) (s0 : Int64) : (Int64 × WI × WL) :=
  (s0, I, L)
theorem V_X8_name_50  {I : WI} {L : WL} {a1 : Int32} {s0 : Int64} {P : (Int64 × WI × WL) → Prop} {t : Tg} (hr : ∀ v, P v → t = (some (.long (p1 v)), ly0, (p1 (p2 v)), (p2 (p2 v)), R0)) (kk : P (F_X8_name_50 I L a1 s0)) : V (zM x_X8_name 7 0 0 t) 50 [(0, .ref 0), (1, .int a1)] [.long s0] ly0 I L R0 0 0 :=
  V_lret (tat ok_X8_name_0 (i := 24) (q := 51) rfl rfl) rfl (hr (s0, I, L) (jx (P := P) kk rfl)) ⟨(Nat.le_of_ble_eq_true rfl), (Nat.le_of_ble_eq_true rfl)⟩
def F_X8_name (I : WI) (L : WL) (a1 : Int32) : (Int64 × WI × WL) :=
  (if a1 < 0 then (F_X8_name_9 I L a1) else (if a1 ≤ 1 then (if a1 = 0 then (F_X8_name_50 (p1 (F_X2_find I L 30 1 5)) (p2 (F_X2_find I L 30 1 5)) a1 ((p2 (F_X2_find I L 30 1 5)) 30 2)) else (F_X8_name_50 (p1 (F_X2_find I L 30 1 5)) (p2 (F_X2_find I L 30 1 5)) a1 (Int32.toInt64 ((p1 (F_X2_find I L 30 1 5)) 30 3)))) else (F_X8_name_9 I L a1)))
theorem V_X8_name  {I : WI} {L : WL} {a1 : Int32}  {P : (Int64 × WI × WL) → Prop} {t : Tg} (hr : ∀ v, P v → t = (some (.long (p1 v)), ly0, (p1 (p2 v)), (p2 (p2 v)), R0)) (kk : P (F_X8_name I L a1)) : V (zM x_X8_name 7 0 0 t) 0 [(0, .ref 0), (1, .int a1)] [] ly0 I L R0 0 0 :=
  V_iload_n (tat ok_X8_name_0 (i := 0) (q := 1) rfl rfl) 1 rfl rfl <|
    V_if_lt (tat ok_X8_name_0 (i := 1) (q := 4) rfl rfl) rfl (fun c1 => V_X8_name_9  hr (jx (P := P) kk (if_pos c1))) (fun c1 => V_iload_n (tat ok_X8_name_0 (i := 2) (q := 5) rfl rfl) 1 rfl rfl <|
    V_iconst (tat ok_X8_name_0 (i := 3) (q := 6) rfl rfl) ic_1 <|
    V_icmp_le (tat ok_X8_name_0 (i := 4) (q := 9) rfl rfl) rfl (fun c2 => V_aload_n (tat ok_X8_name_0 (i := 7) (q := 14) rfl rfl) 0 rfl rfl <|
    V_getR (tat ok_X8_name_0 (i := 8) (q := 17) rfl rfl) fk_X8_70 rfl rfl <|
    V_aload_n (tat ok_X8_name_0 (i := 9) (q := 18) rfl rfl) 0 rfl rfl <|
    V_getR (tat ok_X8_name_0 (i := 10) (q := 21) rfl rfl) fk_X8_14 rfl rfl <|
    V_aload_n (tat ok_X8_name_0 (i := 11) (q := 22) rfl rfl) 0 rfl rfl <|
    V_getR (tat ok_X8_name_0 (i := 12) (q := 25) rfl rfl) fk_X8_27 rfl rfl <|
    V_cv2v (ct_X2_find I L 30 1 5 rfl rfl rfl) mo_X2_find (tat ok_X8_name_0 (i := 13) (q := 28) rfl rfl) ml_X8_272 rfl ⟨by decide, _, rfl, rfl⟩ ⟨(Nat.le_of_ble_eq_true rfl), (Nat.le_of_ble_eq_true rfl)⟩ ⟨(Nat.le_of_ble_eq_true rfl), (Nat.le_of_ble_eq_true rfl)⟩ (Nat.le_of_ble_eq_true rfl) <|
    V_iload_n (tat ok_X8_name_0 (i := 14) (q := 29) rfl rfl) 1 rfl rfl <|
    V_if_ne (tat ok_X8_name_0 (i := 15) (q := 32) rfl rfl) rfl (fun c3 => V_aload_n (tat ok_X8_name_0 (i := 20) (q := 43) rfl rfl) 0 rfl rfl <|
    V_getR (tat ok_X8_name_0 (i := 21) (q := 46) rfl rfl) fk_X8_70 rfl rfl <|
    V_getI (tat ok_X8_name_0 (i := 22) (q := 49) rfl rfl) fk_X8_279 rfl <|
    V_i2l (tat ok_X8_name_0 (i := 23) (q := 50) rfl rfl) <|
    V_X8_name_50  hr (jx (P := P) kk (Eq.trans (if_neg c1) (Eq.trans (if_pos c2) (if_neg c3))))) (fun c3 => V_aload_n (tat ok_X8_name_0 (i := 16) (q := 33) rfl rfl) 0 rfl rfl <|
    V_getR (tat ok_X8_name_0 (i := 17) (q := 36) rfl rfl) fk_X8_70 rfl rfl <|
    V_getL (tat ok_X8_name_0 (i := 18) (q := 39) rfl rfl) fk_X8_276 rfl <|
    V_goto (tat ok_X8_name_0 (i := 19) (q := 42) rfl rfl) rfl <|
    V_X8_name_50  hr (jx (P := P) kk (Eq.trans (if_neg c1) (Eq.trans (if_pos c2) (if_pos c3)))))) (fun c2 => V_X8_name_9  hr (jx (P := P) kk (Eq.trans (if_neg c1) (if_neg c2)))))
theorem ct_X8_name  (I : WI) (L : WL) (a1 : Int32)  : Ct x_X8_name 7 [.ref 0, .int a1] ly0 I L R0 0 0 (some (.long (p1 (F_X8_name I L a1))), ly0, (p1 (p2 (F_X8_name I L a1))), (p2 (p2 (F_X8_name I L a1))), R0) :=
  Ct_of_V mo_X8_name.1 (Nat.le_of_ble_eq_true rfl) (V_X8_name (P := fun x => x = (F_X8_name I L a1))  (fun _ e => by rw [e]) rfl)
def F_X8_cousin_68 (I : WI) (L : WL) (a1 : Int32) (s0 : Int32) : (Int32 × WI × WL) :=
  (s0, I, L)
theorem V_X8_cousin_68  {I : WI} {L : WL} {a1 : Int32} {s0 : Int32} {P : (Int32 × WI × WL) → Prop} {t : Tg} (hs0 : bz s0 = s0) (hr : ∀ v, P v → t = (some (.int (p1 v)), ly0, (p1 (p2 v)), (p2 (p2 v)), R0)) (kk : P (F_X8_cousin_68 I L a1 s0)) : V (zM x_X8_cousin 7 0 0 t) 68 [(0, .ref 0), (1, .int a1)] [.int s0] ly0 I L R0 0 0 :=
  V_iret (tat ok_X8_cousin_0 (i := 35) (q := 69) rfl rfl) _ rfl (nar_int _) (hr (s0, I, L) (jx (P := P) kk rfl)) ⟨(Nat.le_of_ble_eq_true rfl), (Nat.le_of_ble_eq_true rfl)⟩
def F_X8_cousin (I : WI) (L : WL) (a1 : Int32) : (Int32 × WI × WL) :=
  (if a1 = 0 then (if (bz (I 3 0)) = 0 then ((-2), I, L) else (if (F_X2_sameAs (p1 (F_X2_find (p1 (F_X2_find I L 30 1 5)) (p2 (F_X2_find I L 30 1 5)) 31 3 5)) (p2 (F_X2_find (p1 (F_X2_find I L 30 1 5)) (p2 (F_X2_find I L 30 1 5)) 31 3 5)) 30 31) = 0 then (F_X8_cousin_68 (p1 (F_X2_find (p1 (F_X2_find I L 30 1 5)) (p2 (F_X2_find I L 30 1 5)) 31 3 5)) (p2 (F_X2_find (p1 (F_X2_find I L 30 1 5)) (p2 (F_X2_find I L 30 1 5)) 31 3 5)) a1 0) else (F_X8_cousin_68 (p1 (F_X2_find (p1 (F_X2_find I L 30 1 5)) (p2 (F_X2_find I L 30 1 5)) 31 3 5)) (p2 (F_X2_find (p1 (F_X2_find I L 30 1 5)) (p2 (F_X2_find I L 30 1 5)) 31 3 5)) a1 1))) else (if a1 = 1 then (if (bz (I 4 0)) = 0 then ((-2), I, L) else (if (F_X2_sameAs (p1 (F_X2_find (p1 (F_X2_find I L 30 1 5)) (p2 (F_X2_find I L 30 1 5)) 31 4 5)) (p2 (F_X2_find (p1 (F_X2_find I L 30 1 5)) (p2 (F_X2_find I L 30 1 5)) 31 4 5)) 30 31) = 0 then (F_X8_cousin_68 (p1 (F_X2_find (p1 (F_X2_find I L 30 1 5)) (p2 (F_X2_find I L 30 1 5)) 31 4 5)) (p2 (F_X2_find (p1 (F_X2_find I L 30 1 5)) (p2 (F_X2_find I L 30 1 5)) 31 4 5)) a1 0) else (F_X8_cousin_68 (p1 (F_X2_find (p1 (F_X2_find I L 30 1 5)) (p2 (F_X2_find I L 30 1 5)) 31 4 5)) (p2 (F_X2_find (p1 (F_X2_find I L 30 1 5)) (p2 (F_X2_find I L 30 1 5)) 31 4 5)) a1 1))) else ((-1), I, L)))
theorem V_X8_cousin  {I : WI} {L : WL} {a1 : Int32}  {P : (Int32 × WI × WL) → Prop} {t : Tg} (hr : ∀ v, P v → t = (some (.int (p1 v)), ly0, (p1 (p2 v)), (p2 (p2 v)), R0)) (kk : P (F_X8_cousin I L a1)) : V (zM x_X8_cousin 7 0 0 t) 0 [(0, .ref 0), (1, .int a1)] [] ly0 I L R0 0 0 :=
  V_aload_n (tat ok_X8_cousin_0 (i := 0) (q := 1) rfl rfl) 0 rfl rfl <|
    V_iload_n (tat ok_X8_cousin_0 (i := 1) (q := 2) rfl rfl) 1 rfl rfl <|
    (if c1 : a1 = 0 then V_cv1 (ct_img0 I L a1 c1) mo_X8_imageOf (tat ok_X8_cousin_0 (i := 2) (q := 5) rfl rfl) ml_X8_183 rfl ⟨by decide, _, rfl, rfl⟩ ⟨(Nat.le_of_ble_eq_true rfl), (Nat.le_of_ble_eq_true rfl)⟩ ⟨(Nat.le_of_ble_eq_true rfl), (Nat.le_of_ble_eq_true rfl)⟩ (Nat.le_of_ble_eq_true rfl) <|
    V_astore_n (lv' := [(2, .ref 3), (0, .ref 0), (1, .int a1)]) (tat ok_X8_cousin_0 (i := 3) (q := 6) rfl rfl) rfl (by decide) (Nat.le_of_ble_eq_true rfl) rfl <|
    V_aload_n (tat ok_X8_cousin_0 (i := 4) (q := 7) rfl rfl) 0 rfl rfl <|
    V_ifnonnull (tat ok_X8_cousin_0 (i := 5) (q := 10) rfl rfl) (by decide) rfl <|
    V_aload_n (tat ok_X8_cousin_0 (i := 8) (q := 13) rfl rfl) 0 rfl rfl <|
    V_getZ (tat ok_X8_cousin_0 (i := 9) (q := 16) rfl rfl) fk_X8_106 rfl <|
    V_if_ne (tat ok_X8_cousin_0 (i := 10) (q := 19) rfl rfl) rfl (fun c3 => V_aload_n (tat ok_X8_cousin_0 (i := 13) (q := 23) rfl rfl) 1 rfl rfl <|
    V_getR (tat ok_X8_cousin_0 (i := 14) (q := 26) rfl rfl) fk_X8_70 rfl rfl <|
    V_aload_n (tat ok_X8_cousin_0 (i := 15) (q := 27) rfl rfl) 1 rfl rfl <|
    V_getR (tat ok_X8_cousin_0 (i := 16) (q := 30) rfl rfl) fk_X8_14 rfl rfl <|
    V_aload_n (tat ok_X8_cousin_0 (i := 17) (q := 31) rfl rfl) 1 rfl rfl <|
    V_getR (tat ok_X8_cousin_0 (i := 18) (q := 34) rfl rfl) fk_X8_27 rfl rfl <|
    V_cv2v (ct_X2_find I L 30 1 5 rfl rfl rfl) mo_X2_find (tat ok_X8_cousin_0 (i := 19) (q := 37) rfl rfl) ml_X8_272 rfl ⟨by decide, _, rfl, rfl⟩ ⟨(Nat.le_of_ble_eq_true rfl), (Nat.le_of_ble_eq_true rfl)⟩ ⟨(Nat.le_of_ble_eq_true rfl), (Nat.le_of_ble_eq_true rfl)⟩ (Nat.le_of_ble_eq_true rfl) <|
    V_aload_n (tat ok_X8_cousin_0 (i := 20) (q := 38) rfl rfl) 1 rfl rfl <|
    V_getR (tat ok_X8_cousin_0 (i := 21) (q := 41) rfl rfl) fk_X8_74 rfl rfl <|
    V_aload_n (tat ok_X8_cousin_0 (i := 22) (q := 42) rfl rfl) 0 rfl rfl <|
    V_aload_n (tat ok_X8_cousin_0 (i := 23) (q := 43) rfl rfl) 1 rfl rfl <|
    V_getR (tat ok_X8_cousin_0 (i := 24) (q := 46) rfl rfl) fk_X8_27 rfl rfl <|
    V_cv2v (ct_X2_find (p1 (F_X2_find I L 30 1 5)) (p2 (F_X2_find I L 30 1 5)) 31 3 5 rfl rfl rfl) mo_X2_find (tat ok_X8_cousin_0 (i := 25) (q := 49) rfl rfl) ml_X8_272 rfl ⟨by decide, _, rfl, rfl⟩ ⟨(Nat.le_of_ble_eq_true rfl), (Nat.le_of_ble_eq_true rfl)⟩ ⟨(Nat.le_of_ble_eq_true rfl), (Nat.le_of_ble_eq_true rfl)⟩ (Nat.le_of_ble_eq_true rfl) <|
    V_aload_n (tat ok_X8_cousin_0 (i := 26) (q := 50) rfl rfl) 1 rfl rfl <|
    V_getR (tat ok_X8_cousin_0 (i := 27) (q := 53) rfl rfl) fk_X8_70 rfl rfl <|
    V_aload_n (tat ok_X8_cousin_0 (i := 28) (q := 54) rfl rfl) 1 rfl rfl <|
    V_getR (tat ok_X8_cousin_0 (i := 29) (q := 57) rfl rfl) fk_X8_74 rfl rfl <|
    V_cv1 (ct_X2_sameAs (p1 (F_X2_find (p1 (F_X2_find I L 30 1 5)) (p2 (F_X2_find I L 30 1 5)) 31 3 5)) (p2 (F_X2_find (p1 (F_X2_find I L 30 1 5)) (p2 (F_X2_find I L 30 1 5)) 31 3 5)) 30 31 rfl rfl) mo_X2_sameAs (tat ok_X8_cousin_0 (i := 30) (q := 60) rfl rfl) ml_X8_282 rfl ⟨by decide, _, rfl, rfl⟩ ⟨(Nat.le_of_ble_eq_true rfl), (Nat.le_of_ble_eq_true rfl)⟩ ⟨(Nat.le_of_ble_eq_true rfl), (Nat.le_of_ble_eq_true rfl)⟩ (Nat.le_of_ble_eq_true rfl) <|
    V_if_eq (tat ok_X8_cousin_0 (i := 31) (q := 63) rfl rfl) rfl (fun c4 => V_iconst (tat ok_X8_cousin_0 (i := 34) (q := 68) rfl rfl) ic_0 <|
    V_pick [1, 2] rfl (V_X8_cousin_68 rfl hr (jx (P := P) kk (Eq.trans (if_pos c1) (Eq.trans (if_neg c3) (if_pos c4)))))) (fun c4 => V_iconst (tat ok_X8_cousin_0 (i := 32) (q := 64) rfl rfl) ic_1 <|
    V_goto (tat ok_X8_cousin_0 (i := 33) (q := 67) rfl rfl) rfl <|
    V_pick [1, 2] rfl (V_X8_cousin_68 rfl hr (jx (P := P) kk (Eq.trans (if_pos c1) (Eq.trans (if_neg c3) (if_neg c4))))))) (fun c3 => V_bipush (tat ok_X8_cousin_0 (i := 11) (q := 21) rfl rfl) bp_m2 <|
    V_iret (tat ok_X8_cousin_0 (i := 12) (q := 22) rfl rfl) _ rfl (nar_int _) (hr ((-2), I, L) (jx (P := P) kk (Eq.trans (if_pos c1) (if_pos c3)))) ⟨(Nat.le_of_ble_eq_true rfl), (Nat.le_of_ble_eq_true rfl)⟩) else (if c2 : a1 = 1 then V_cv1 (ct_img1 I L a1 c2) mo_X8_imageOf (tat ok_X8_cousin_0 (i := 2) (q := 5) rfl rfl) ml_X8_183 rfl ⟨by decide, _, rfl, rfl⟩ ⟨(Nat.le_of_ble_eq_true rfl), (Nat.le_of_ble_eq_true rfl)⟩ ⟨(Nat.le_of_ble_eq_true rfl), (Nat.le_of_ble_eq_true rfl)⟩ (Nat.le_of_ble_eq_true rfl) <|
    V_astore_n (lv' := [(2, .ref 4), (0, .ref 0), (1, .int a1)]) (tat ok_X8_cousin_0 (i := 3) (q := 6) rfl rfl) rfl (by decide) (Nat.le_of_ble_eq_true rfl) rfl <|
    V_aload_n (tat ok_X8_cousin_0 (i := 4) (q := 7) rfl rfl) 0 rfl rfl <|
    V_ifnonnull (tat ok_X8_cousin_0 (i := 5) (q := 10) rfl rfl) (by decide) rfl <|
    V_aload_n (tat ok_X8_cousin_0 (i := 8) (q := 13) rfl rfl) 0 rfl rfl <|
    V_getZ (tat ok_X8_cousin_0 (i := 9) (q := 16) rfl rfl) fk_X8_106 rfl <|
    V_if_ne (tat ok_X8_cousin_0 (i := 10) (q := 19) rfl rfl) rfl (fun c5 => V_aload_n (tat ok_X8_cousin_0 (i := 13) (q := 23) rfl rfl) 1 rfl rfl <|
    V_getR (tat ok_X8_cousin_0 (i := 14) (q := 26) rfl rfl) fk_X8_70 rfl rfl <|
    V_aload_n (tat ok_X8_cousin_0 (i := 15) (q := 27) rfl rfl) 1 rfl rfl <|
    V_getR (tat ok_X8_cousin_0 (i := 16) (q := 30) rfl rfl) fk_X8_14 rfl rfl <|
    V_aload_n (tat ok_X8_cousin_0 (i := 17) (q := 31) rfl rfl) 1 rfl rfl <|
    V_getR (tat ok_X8_cousin_0 (i := 18) (q := 34) rfl rfl) fk_X8_27 rfl rfl <|
    V_cv2v (ct_X2_find I L 30 1 5 rfl rfl rfl) mo_X2_find (tat ok_X8_cousin_0 (i := 19) (q := 37) rfl rfl) ml_X8_272 rfl ⟨by decide, _, rfl, rfl⟩ ⟨(Nat.le_of_ble_eq_true rfl), (Nat.le_of_ble_eq_true rfl)⟩ ⟨(Nat.le_of_ble_eq_true rfl), (Nat.le_of_ble_eq_true rfl)⟩ (Nat.le_of_ble_eq_true rfl) <|
    V_aload_n (tat ok_X8_cousin_0 (i := 20) (q := 38) rfl rfl) 1 rfl rfl <|
    V_getR (tat ok_X8_cousin_0 (i := 21) (q := 41) rfl rfl) fk_X8_74 rfl rfl <|
    V_aload_n (tat ok_X8_cousin_0 (i := 22) (q := 42) rfl rfl) 0 rfl rfl <|
    V_aload_n (tat ok_X8_cousin_0 (i := 23) (q := 43) rfl rfl) 1 rfl rfl <|
    V_getR (tat ok_X8_cousin_0 (i := 24) (q := 46) rfl rfl) fk_X8_27 rfl rfl <|
    V_cv2v (ct_X2_find (p1 (F_X2_find I L 30 1 5)) (p2 (F_X2_find I L 30 1 5)) 31 4 5 rfl rfl rfl) mo_X2_find (tat ok_X8_cousin_0 (i := 25) (q := 49) rfl rfl) ml_X8_272 rfl ⟨by decide, _, rfl, rfl⟩ ⟨(Nat.le_of_ble_eq_true rfl), (Nat.le_of_ble_eq_true rfl)⟩ ⟨(Nat.le_of_ble_eq_true rfl), (Nat.le_of_ble_eq_true rfl)⟩ (Nat.le_of_ble_eq_true rfl) <|
    V_aload_n (tat ok_X8_cousin_0 (i := 26) (q := 50) rfl rfl) 1 rfl rfl <|
    V_getR (tat ok_X8_cousin_0 (i := 27) (q := 53) rfl rfl) fk_X8_70 rfl rfl <|
    V_aload_n (tat ok_X8_cousin_0 (i := 28) (q := 54) rfl rfl) 1 rfl rfl <|
    V_getR (tat ok_X8_cousin_0 (i := 29) (q := 57) rfl rfl) fk_X8_74 rfl rfl <|
    V_cv1 (ct_X2_sameAs (p1 (F_X2_find (p1 (F_X2_find I L 30 1 5)) (p2 (F_X2_find I L 30 1 5)) 31 4 5)) (p2 (F_X2_find (p1 (F_X2_find I L 30 1 5)) (p2 (F_X2_find I L 30 1 5)) 31 4 5)) 30 31 rfl rfl) mo_X2_sameAs (tat ok_X8_cousin_0 (i := 30) (q := 60) rfl rfl) ml_X8_282 rfl ⟨by decide, _, rfl, rfl⟩ ⟨(Nat.le_of_ble_eq_true rfl), (Nat.le_of_ble_eq_true rfl)⟩ ⟨(Nat.le_of_ble_eq_true rfl), (Nat.le_of_ble_eq_true rfl)⟩ (Nat.le_of_ble_eq_true rfl) <|
    V_if_eq (tat ok_X8_cousin_0 (i := 31) (q := 63) rfl rfl) rfl (fun c6 => V_iconst (tat ok_X8_cousin_0 (i := 34) (q := 68) rfl rfl) ic_0 <|
    V_pick [1, 2] rfl (V_X8_cousin_68 rfl hr (jx (P := P) kk (Eq.trans (if_neg c1) (Eq.trans (if_pos c2) (Eq.trans (if_neg c5) (if_pos c6))))))) (fun c6 => V_iconst (tat ok_X8_cousin_0 (i := 32) (q := 64) rfl rfl) ic_1 <|
    V_goto (tat ok_X8_cousin_0 (i := 33) (q := 67) rfl rfl) rfl <|
    V_pick [1, 2] rfl (V_X8_cousin_68 rfl hr (jx (P := P) kk (Eq.trans (if_neg c1) (Eq.trans (if_pos c2) (Eq.trans (if_neg c5) (if_neg c6)))))))) (fun c5 => V_bipush (tat ok_X8_cousin_0 (i := 11) (q := 21) rfl rfl) bp_m2 <|
    V_iret (tat ok_X8_cousin_0 (i := 12) (q := 22) rfl rfl) _ rfl (nar_int _) (hr ((-2), I, L) (jx (P := P) kk (Eq.trans (if_neg c1) (Eq.trans (if_pos c2) (if_pos c5))))) ⟨(Nat.le_of_ble_eq_true rfl), (Nat.le_of_ble_eq_true rfl)⟩) else V_cv1 (ct_imgN I L a1 c1 c2) mo_X8_imageOf (tat ok_X8_cousin_0 (i := 2) (q := 5) rfl rfl) ml_X8_183 rfl ⟨by decide, _, rfl, rfl⟩ ⟨(Nat.le_of_ble_eq_true rfl), (Nat.le_of_ble_eq_true rfl)⟩ ⟨(Nat.le_of_ble_eq_true rfl), (Nat.le_of_ble_eq_true rfl)⟩ (Nat.le_of_ble_eq_true rfl) <|
    V_astoreN_n (lv' := [(2, .null), (0, .ref 0), (1, .int a1)]) (tat ok_X8_cousin_0 (i := 3) (q := 6) rfl rfl) rfl (Nat.le_of_ble_eq_true rfl) rfl <|
    V_aloadN_n (tat ok_X8_cousin_0 (i := 4) (q := 7) rfl rfl) 0 rfl rfl <|
    V_ifnonnullN (tat ok_X8_cousin_0 (i := 5) (q := 10) rfl rfl) <|
    V_iconst (tat ok_X8_cousin_0 (i := 6) (q := 11) rfl rfl) ic_m1 <|
    V_iret (tat ok_X8_cousin_0 (i := 7) (q := 12) rfl rfl) _ rfl (nar_int _) (hr ((-1), I, L) (jx (P := P) kk (Eq.trans (if_neg c1) (if_neg c2)))) ⟨(Nat.le_of_ble_eq_true rfl), (Nat.le_of_ble_eq_true rfl)⟩))
theorem ct_X8_cousin  (I : WI) (L : WL) (a1 : Int32)  : Ct x_X8_cousin 7 [.ref 0, .int a1] ly0 I L R0 0 0 (some (.int (p1 (F_X8_cousin I L a1))), ly0, (p1 (p2 (F_X8_cousin I L a1))), (p2 (p2 (F_X8_cousin I L a1))), R0) :=
  Ct_of_V mo_X8_cousin.1 (Nat.le_of_ble_eq_true rfl) (V_X8_cousin (P := fun x => x = (F_X8_cousin I L a1))  (fun _ e => by rw [e]) rfl)
def F_X8_keep_24 (I : WI) (L : WL) (a1 : Int32) (r2 : Nat) (s0 : Int32) : (Int32 × WI × WL) :=
  (s0, (p1 (F_X0_become I L r2 1)), (p2 (F_X0_become I L r2 1)))
theorem V_X8_keep_24  {I : WI} {L : WL} {a1 : Int32} {r2 : Nat} {s0 : Int32} {P : (Int32 × WI × WL) → Prop} {t : Tg} (hr2 : isX0 r2) (hs0 : bz s0 = s0) (hr : ∀ v, P v → t = (some (.int (p1 v)), ly0, (p1 (p2 v)), (p2 (p2 v)), R0)) (kk : P (F_X8_keep_24 I L a1 r2 s0)) : V (zM x_X8_keep 2 0 0 t) 24 [(0, .ref 0), (1, .int a1), (2, .ref r2)] [.int s0] ly0 I L R0 0 0 :=
  V_istore_n (lv' := [(3, .int s0), (0, .ref 0), (1, .int a1), (2, .ref r2)]) (tat ok_X8_keep_0 (i := 14) (q := 25) rfl rfl) rfl (Nat.le_of_ble_eq_true rfl) rfl <|
    V_aload_n (tat ok_X8_keep_0 (i := 15) (q := 26) rfl rfl) 3 rfl rfl <|
    V_aload_n (tat ok_X8_keep_0 (i := 16) (q := 27) rfl rfl) 1 rfl rfl <|
    V_getR (tat ok_X8_keep_0 (i := 17) (q := 30) rfl rfl) fk_X8_14 rfl rfl <|
    V_cv1v (ct_X0_become I L r2 1 hr2 rfl) mo_X0_become (tat ok_X8_keep_0 (i := 18) (q := 33) rfl rfl) ml_X8_102 hr2 ⟨by decide, _, rfl, rfl⟩ ⟨(Nat.le_of_ble_eq_true rfl), (Nat.le_of_ble_eq_true rfl)⟩ ⟨(Nat.le_of_ble_eq_true rfl), (Nat.le_of_ble_eq_true rfl)⟩ (Nat.le_of_ble_eq_true rfl) <|
    V_iload_n (tat ok_X8_keep_0 (i := 19) (q := 34) rfl rfl) 0 rfl rfl <|
    V_iret (tat ok_X8_keep_0 (i := 20) (q := 35) rfl rfl) _ rfl (nar_int _) (hr (s0, (p1 (F_X0_become I L r2 1)), (p2 (F_X0_become I L r2 1))) (jx (P := P) kk rfl)) ⟨(Nat.le_of_ble_eq_true rfl), (Nat.le_of_ble_eq_true rfl)⟩
def F_X8_keep (I : WI) (L : WL) (a1 : Int32) : (Int32 × WI × WL) :=
  (if a1 = 0 then (if (bz (I 3 0)) = 0 then (F_X8_keep_24 I L a1 3 0) else (F_X8_keep_24 I L a1 3 1)) else (if a1 = 1 then (if (bz (I 4 0)) = 0 then (F_X8_keep_24 I L a1 4 0) else (F_X8_keep_24 I L a1 4 1)) else ((-1), I, L)))
theorem V_X8_keep  {I : WI} {L : WL} {a1 : Int32}  {P : (Int32 × WI × WL) → Prop} {t : Tg} (hr : ∀ v, P v → t = (some (.int (p1 v)), ly0, (p1 (p2 v)), (p2 (p2 v)), R0)) (kk : P (F_X8_keep I L a1)) : V (zM x_X8_keep 2 0 0 t) 0 [(0, .ref 0), (1, .int a1)] [] ly0 I L R0 0 0 :=
  V_aload_n (tat ok_X8_keep_0 (i := 0) (q := 1) rfl rfl) 0 rfl rfl <|
    V_iload_n (tat ok_X8_keep_0 (i := 1) (q := 2) rfl rfl) 1 rfl rfl <|
    (if c1 : a1 = 0 then V_cv1 (ct_img0 I L a1 c1) mo_X8_imageOf (tat ok_X8_keep_0 (i := 2) (q := 5) rfl rfl) ml_X8_183 rfl ⟨by decide, _, rfl, rfl⟩ ⟨(Nat.le_of_ble_eq_true rfl), (Nat.le_of_ble_eq_true rfl)⟩ ⟨(Nat.le_of_ble_eq_true rfl), (Nat.le_of_ble_eq_true rfl)⟩ (Nat.le_of_ble_eq_true rfl) <|
    V_astore_n (lv' := [(2, .ref 3), (0, .ref 0), (1, .int a1)]) (tat ok_X8_keep_0 (i := 3) (q := 6) rfl rfl) rfl (by decide) (Nat.le_of_ble_eq_true rfl) rfl <|
    V_aload_n (tat ok_X8_keep_0 (i := 4) (q := 7) rfl rfl) 0 rfl rfl <|
    V_ifnonnull (tat ok_X8_keep_0 (i := 5) (q := 10) rfl rfl) (by decide) rfl <|
    V_aload_n (tat ok_X8_keep_0 (i := 8) (q := 13) rfl rfl) 0 rfl rfl <|
    V_getZ (tat ok_X8_keep_0 (i := 9) (q := 16) rfl rfl) fk_X8_106 rfl <|
    V_if_eq (tat ok_X8_keep_0 (i := 10) (q := 19) rfl rfl) rfl (fun c3 => V_iconst (tat ok_X8_keep_0 (i := 13) (q := 24) rfl rfl) ic_0 <|
    V_pick [1, 2, 0] rfl (V_X8_keep_24 rfl rfl hr (jx (P := P) kk (Eq.trans (if_pos c1) (if_pos c3))))) (fun c3 => V_iconst (tat ok_X8_keep_0 (i := 11) (q := 20) rfl rfl) ic_1 <|
    V_goto (tat ok_X8_keep_0 (i := 12) (q := 23) rfl rfl) rfl <|
    V_pick [1, 2, 0] rfl (V_X8_keep_24 rfl rfl hr (jx (P := P) kk (Eq.trans (if_pos c1) (if_neg c3))))) else (if c2 : a1 = 1 then V_cv1 (ct_img1 I L a1 c2) mo_X8_imageOf (tat ok_X8_keep_0 (i := 2) (q := 5) rfl rfl) ml_X8_183 rfl ⟨by decide, _, rfl, rfl⟩ ⟨(Nat.le_of_ble_eq_true rfl), (Nat.le_of_ble_eq_true rfl)⟩ ⟨(Nat.le_of_ble_eq_true rfl), (Nat.le_of_ble_eq_true rfl)⟩ (Nat.le_of_ble_eq_true rfl) <|
    V_astore_n (lv' := [(2, .ref 4), (0, .ref 0), (1, .int a1)]) (tat ok_X8_keep_0 (i := 3) (q := 6) rfl rfl) rfl (by decide) (Nat.le_of_ble_eq_true rfl) rfl <|
    V_aload_n (tat ok_X8_keep_0 (i := 4) (q := 7) rfl rfl) 0 rfl rfl <|
    V_ifnonnull (tat ok_X8_keep_0 (i := 5) (q := 10) rfl rfl) (by decide) rfl <|
    V_aload_n (tat ok_X8_keep_0 (i := 8) (q := 13) rfl rfl) 0 rfl rfl <|
    V_getZ (tat ok_X8_keep_0 (i := 9) (q := 16) rfl rfl) fk_X8_106 rfl <|
    V_if_eq (tat ok_X8_keep_0 (i := 10) (q := 19) rfl rfl) rfl (fun c4 => V_iconst (tat ok_X8_keep_0 (i := 13) (q := 24) rfl rfl) ic_0 <|
    V_pick [1, 2, 0] rfl (V_X8_keep_24 rfl rfl hr (jx (P := P) kk (Eq.trans (if_neg c1) (Eq.trans (if_pos c2) (if_pos c4)))))) (fun c4 => V_iconst (tat ok_X8_keep_0 (i := 11) (q := 20) rfl rfl) ic_1 <|
    V_goto (tat ok_X8_keep_0 (i := 12) (q := 23) rfl rfl) rfl <|
    V_pick [1, 2, 0] rfl (V_X8_keep_24 rfl rfl hr (jx (P := P) kk (Eq.trans (if_neg c1) (Eq.trans (if_pos c2) (if_neg c4)))))) else V_cv1 (ct_imgN I L a1 c1 c2) mo_X8_imageOf (tat ok_X8_keep_0 (i := 2) (q := 5) rfl rfl) ml_X8_183 rfl ⟨by decide, _, rfl, rfl⟩ ⟨(Nat.le_of_ble_eq_true rfl), (Nat.le_of_ble_eq_true rfl)⟩ ⟨(Nat.le_of_ble_eq_true rfl), (Nat.le_of_ble_eq_true rfl)⟩ (Nat.le_of_ble_eq_true rfl) <|
    V_astoreN_n (lv' := [(2, .null), (0, .ref 0), (1, .int a1)]) (tat ok_X8_keep_0 (i := 3) (q := 6) rfl rfl) rfl (Nat.le_of_ble_eq_true rfl) rfl <|
    V_aloadN_n (tat ok_X8_keep_0 (i := 4) (q := 7) rfl rfl) 0 rfl rfl <|
    V_ifnonnullN (tat ok_X8_keep_0 (i := 5) (q := 10) rfl rfl) <|
    V_iconst (tat ok_X8_keep_0 (i := 6) (q := 11) rfl rfl) ic_m1 <|
    V_iret (tat ok_X8_keep_0 (i := 7) (q := 12) rfl rfl) _ rfl (nar_int _) (hr ((-1), I, L) (jx (P := P) kk (Eq.trans (if_neg c1) (if_neg c2)))) ⟨(Nat.le_of_ble_eq_true rfl), (Nat.le_of_ble_eq_true rfl)⟩))
theorem ct_X8_keep  (I : WI) (L : WL) (a1 : Int32)  : Ct x_X8_keep 2 [.ref 0, .int a1] ly0 I L R0 0 0 (some (.int (p1 (F_X8_keep I L a1))), ly0, (p1 (p2 (F_X8_keep I L a1))), (p2 (p2 (F_X8_keep I L a1))), R0) :=
  Ct_of_V mo_X8_keep.1 (Nat.le_of_ble_eq_true rfl) (V_X8_keep (P := fun x => x = (F_X8_keep I L a1))  (fun _ e => by rw [e]) rfl)
def F_X8_back_37 (I : WI) (L : WL) (a1 : Int32) (r2 : Nat) : (Int32 × WI × WL) :=
  ((F_X0_darkSquares (p2 (F_X0_become I L 1 r2)) 1), (p1 (F_X0_become I L 1 r2)), (p2 (F_X0_become I L 1 r2)))
theorem V_X8_back_37  {I : WI} {L : WL} {a1 : Int32} {r2 : Nat} {P : (Int32 × WI × WL) → Prop} {t : Tg} (hr2 : isX0 r2) (hr : ∀ v, P v → t = (some (.int (p1 v)), ly0, (p1 (p2 v)), (p2 (p2 v)), R0)) (kk : P (F_X8_back_37 I L a1 r2)) : V (zM x_X8_back 3 0 0 t) 37 [(0, .ref 0), (1, .int a1), (2, .ref r2)] [] ly0 I L R0 0 0 :=
  V_aload_n (tat ok_X8_back_0 (i := 20) (q := 38) rfl rfl) 0 rfl rfl <|
    V_getR (tat ok_X8_back_0 (i := 21) (q := 41) rfl rfl) fk_X8_14 rfl rfl <|
    V_aload_n (tat ok_X8_back_0 (i := 22) (q := 42) rfl rfl) 2 rfl rfl <|
    V_cv1v (ct_X0_become I L 1 r2 rfl hr2) mo_X0_become (tat ok_X8_back_0 (i := 23) (q := 45) rfl rfl) ml_X8_102 rfl ⟨by decide, _, rfl, rfl⟩ ⟨(Nat.le_of_ble_eq_true rfl), (Nat.le_of_ble_eq_true rfl)⟩ ⟨(Nat.le_of_ble_eq_true rfl), (Nat.le_of_ble_eq_true rfl)⟩ (Nat.le_of_ble_eq_true rfl) <|
    V_aload_n (tat ok_X8_back_0 (i := 24) (q := 46) rfl rfl) 0 rfl rfl <|
    V_getR (tat ok_X8_back_0 (i := 25) (q := 49) rfl rfl) fk_X8_14 rfl rfl <|
    V_cv0 (ct_X0_darkSquares (p1 (F_X0_become I L 1 r2)) (p2 (F_X0_become I L 1 r2)) 1 rfl) mo_X0_darkSquares (tat ok_X8_back_0 (i := 26) (q := 52) rfl rfl) ml_X8_159 rfl ⟨by decide, _, rfl, rfl⟩ ⟨(Nat.le_of_ble_eq_true rfl), (Nat.le_of_ble_eq_true rfl)⟩ ⟨(Nat.le_of_ble_eq_true rfl), (Nat.le_of_ble_eq_true rfl)⟩ (Nat.le_of_ble_eq_true rfl) <|
    V_iret (tat ok_X8_back_0 (i := 27) (q := 53) rfl rfl) _ rfl (nar_int _) (hr ((F_X0_darkSquares (p2 (F_X0_become I L 1 r2)) 1), (p1 (F_X0_become I L 1 r2)), (p2 (F_X0_become I L 1 r2))) (jx (P := P) kk rfl)) ⟨(Nat.le_of_ble_eq_true rfl), (Nat.le_of_ble_eq_true rfl)⟩
def F_X8_back (I : WI) (L : WL) (a1 : Int32) : (Int32 × WI × WL) :=
  (if a1 = 0 then (if (bz (I 3 0)) = 0 then ((-2), I, L) else (if (F_X0_sameSize I 3 1) = 0 then (F_X8_back_37 (F_X8_forgetPlans I) L a1 3) else (F_X8_back_37 I L a1 3))) else (if a1 = 1 then (if (bz (I 4 0)) = 0 then ((-2), I, L) else (if (F_X0_sameSize I 4 1) = 0 then (F_X8_back_37 (F_X8_forgetPlans I) L a1 4) else (F_X8_back_37 I L a1 4))) else ((-1), I, L)))
theorem V_X8_back  {I : WI} {L : WL} {a1 : Int32}  {P : (Int32 × WI × WL) → Prop} {t : Tg} (hr : ∀ v, P v → t = (some (.int (p1 v)), ly0, (p1 (p2 v)), (p2 (p2 v)), R0)) (kk : P (F_X8_back I L a1)) : V (zM x_X8_back 3 0 0 t) 0 [(0, .ref 0), (1, .int a1)] [] ly0 I L R0 0 0 :=
  V_aload_n (tat ok_X8_back_0 (i := 0) (q := 1) rfl rfl) 0 rfl rfl <|
    V_iload_n (tat ok_X8_back_0 (i := 1) (q := 2) rfl rfl) 1 rfl rfl <|
    (if c1 : a1 = 0 then V_cv1 (ct_img0 I L a1 c1) mo_X8_imageOf (tat ok_X8_back_0 (i := 2) (q := 5) rfl rfl) ml_X8_183 rfl ⟨by decide, _, rfl, rfl⟩ ⟨(Nat.le_of_ble_eq_true rfl), (Nat.le_of_ble_eq_true rfl)⟩ ⟨(Nat.le_of_ble_eq_true rfl), (Nat.le_of_ble_eq_true rfl)⟩ (Nat.le_of_ble_eq_true rfl) <|
    V_astore_n (lv' := [(2, .ref 3), (0, .ref 0), (1, .int a1)]) (tat ok_X8_back_0 (i := 3) (q := 6) rfl rfl) rfl (by decide) (Nat.le_of_ble_eq_true rfl) rfl <|
    V_aload_n (tat ok_X8_back_0 (i := 4) (q := 7) rfl rfl) 0 rfl rfl <|
    V_ifnonnull (tat ok_X8_back_0 (i := 5) (q := 10) rfl rfl) (by decide) rfl <|
    V_aload_n (tat ok_X8_back_0 (i := 8) (q := 13) rfl rfl) 0 rfl rfl <|
    V_getZ (tat ok_X8_back_0 (i := 9) (q := 16) rfl rfl) fk_X8_106 rfl <|
    V_if_ne (tat ok_X8_back_0 (i := 10) (q := 19) rfl rfl) rfl (fun c3 => V_aload_n (tat ok_X8_back_0 (i := 13) (q := 23) rfl rfl) 0 rfl rfl <|
    V_aload_n (tat ok_X8_back_0 (i := 14) (q := 24) rfl rfl) 1 rfl rfl <|
    V_getR (tat ok_X8_back_0 (i := 15) (q := 27) rfl rfl) fk_X8_14 rfl rfl <|
    V_cv1 (ct_X0_sameSize I L 3 1 rfl rfl) mo_X0_sameSize (tat ok_X8_back_0 (i := 16) (q := 30) rfl rfl) ml_X8_187 rfl ⟨by decide, _, rfl, rfl⟩ ⟨(Nat.le_of_ble_eq_true rfl), (Nat.le_of_ble_eq_true rfl)⟩ ⟨(Nat.le_of_ble_eq_true rfl), (Nat.le_of_ble_eq_true rfl)⟩ (Nat.le_of_ble_eq_true rfl) <|
    V_if_ne (tat ok_X8_back_0 (i := 17) (q := 33) rfl rfl) rfl (fun c4 => V_pick [1, 2, 0] rfl (V_X8_back_37 rfl hr (jx (P := P) kk (Eq.trans (if_pos c1) (Eq.trans (if_neg c3) (if_neg c4)))))) (fun c4 => V_aload_n (tat ok_X8_back_0 (i := 18) (q := 34) rfl rfl) 1 rfl rfl <|
    V_cv0v (ct_X8_forgetPlans I L  ) mo_X8_forgetPlans (tat ok_X8_back_0 (i := 19) (q := 37) rfl rfl) ml_X8_269 rfl ⟨by decide, _, rfl, rfl⟩ ⟨(Nat.le_of_ble_eq_true rfl), (Nat.le_of_ble_eq_true rfl)⟩ ⟨(Nat.le_of_ble_eq_true rfl), (Nat.le_of_ble_eq_true rfl)⟩ (Nat.le_of_ble_eq_true rfl) <|
    V_pick [1, 2, 0] rfl (V_X8_back_37 rfl hr (jx (P := P) kk (Eq.trans (if_pos c1) (Eq.trans (if_neg c3) (if_pos c4))))))) (fun c3 => V_bipush (tat ok_X8_back_0 (i := 11) (q := 21) rfl rfl) bp_m2 <|
    V_iret (tat ok_X8_back_0 (i := 12) (q := 22) rfl rfl) _ rfl (nar_int _) (hr ((-2), I, L) (jx (P := P) kk (Eq.trans (if_pos c1) (if_pos c3)))) ⟨(Nat.le_of_ble_eq_true rfl), (Nat.le_of_ble_eq_true rfl)⟩) else (if c2 : a1 = 1 then V_cv1 (ct_img1 I L a1 c2) mo_X8_imageOf (tat ok_X8_back_0 (i := 2) (q := 5) rfl rfl) ml_X8_183 rfl ⟨by decide, _, rfl, rfl⟩ ⟨(Nat.le_of_ble_eq_true rfl), (Nat.le_of_ble_eq_true rfl)⟩ ⟨(Nat.le_of_ble_eq_true rfl), (Nat.le_of_ble_eq_true rfl)⟩ (Nat.le_of_ble_eq_true rfl) <|
    V_astore_n (lv' := [(2, .ref 4), (0, .ref 0), (1, .int a1)]) (tat ok_X8_back_0 (i := 3) (q := 6) rfl rfl) rfl (by decide) (Nat.le_of_ble_eq_true rfl) rfl <|
    V_aload_n (tat ok_X8_back_0 (i := 4) (q := 7) rfl rfl) 0 rfl rfl <|
    V_ifnonnull (tat ok_X8_back_0 (i := 5) (q := 10) rfl rfl) (by decide) rfl <|
    V_aload_n (tat ok_X8_back_0 (i := 8) (q := 13) rfl rfl) 0 rfl rfl <|
    V_getZ (tat ok_X8_back_0 (i := 9) (q := 16) rfl rfl) fk_X8_106 rfl <|
    V_if_ne (tat ok_X8_back_0 (i := 10) (q := 19) rfl rfl) rfl (fun c5 => V_aload_n (tat ok_X8_back_0 (i := 13) (q := 23) rfl rfl) 0 rfl rfl <|
    V_aload_n (tat ok_X8_back_0 (i := 14) (q := 24) rfl rfl) 1 rfl rfl <|
    V_getR (tat ok_X8_back_0 (i := 15) (q := 27) rfl rfl) fk_X8_14 rfl rfl <|
    V_cv1 (ct_X0_sameSize I L 4 1 rfl rfl) mo_X0_sameSize (tat ok_X8_back_0 (i := 16) (q := 30) rfl rfl) ml_X8_187 rfl ⟨by decide, _, rfl, rfl⟩ ⟨(Nat.le_of_ble_eq_true rfl), (Nat.le_of_ble_eq_true rfl)⟩ ⟨(Nat.le_of_ble_eq_true rfl), (Nat.le_of_ble_eq_true rfl)⟩ (Nat.le_of_ble_eq_true rfl) <|
    V_if_ne (tat ok_X8_back_0 (i := 17) (q := 33) rfl rfl) rfl (fun c6 => V_pick [1, 2, 0] rfl (V_X8_back_37 rfl hr (jx (P := P) kk (Eq.trans (if_neg c1) (Eq.trans (if_pos c2) (Eq.trans (if_neg c5) (if_neg c6))))))) (fun c6 => V_aload_n (tat ok_X8_back_0 (i := 18) (q := 34) rfl rfl) 1 rfl rfl <|
    V_cv0v (ct_X8_forgetPlans I L  ) mo_X8_forgetPlans (tat ok_X8_back_0 (i := 19) (q := 37) rfl rfl) ml_X8_269 rfl ⟨by decide, _, rfl, rfl⟩ ⟨(Nat.le_of_ble_eq_true rfl), (Nat.le_of_ble_eq_true rfl)⟩ ⟨(Nat.le_of_ble_eq_true rfl), (Nat.le_of_ble_eq_true rfl)⟩ (Nat.le_of_ble_eq_true rfl) <|
    V_pick [1, 2, 0] rfl (V_X8_back_37 rfl hr (jx (P := P) kk (Eq.trans (if_neg c1) (Eq.trans (if_pos c2) (Eq.trans (if_neg c5) (if_pos c6)))))))) (fun c5 => V_bipush (tat ok_X8_back_0 (i := 11) (q := 21) rfl rfl) bp_m2 <|
    V_iret (tat ok_X8_back_0 (i := 12) (q := 22) rfl rfl) _ rfl (nar_int _) (hr ((-2), I, L) (jx (P := P) kk (Eq.trans (if_neg c1) (Eq.trans (if_pos c2) (if_pos c5))))) ⟨(Nat.le_of_ble_eq_true rfl), (Nat.le_of_ble_eq_true rfl)⟩) else V_cv1 (ct_imgN I L a1 c1 c2) mo_X8_imageOf (tat ok_X8_back_0 (i := 2) (q := 5) rfl rfl) ml_X8_183 rfl ⟨by decide, _, rfl, rfl⟩ ⟨(Nat.le_of_ble_eq_true rfl), (Nat.le_of_ble_eq_true rfl)⟩ ⟨(Nat.le_of_ble_eq_true rfl), (Nat.le_of_ble_eq_true rfl)⟩ (Nat.le_of_ble_eq_true rfl) <|
    V_astoreN_n (lv' := [(2, .null), (0, .ref 0), (1, .int a1)]) (tat ok_X8_back_0 (i := 3) (q := 6) rfl rfl) rfl (Nat.le_of_ble_eq_true rfl) rfl <|
    V_aloadN_n (tat ok_X8_back_0 (i := 4) (q := 7) rfl rfl) 0 rfl rfl <|
    V_ifnonnullN (tat ok_X8_back_0 (i := 5) (q := 10) rfl rfl) <|
    V_iconst (tat ok_X8_back_0 (i := 6) (q := 11) rfl rfl) ic_m1 <|
    V_iret (tat ok_X8_back_0 (i := 7) (q := 12) rfl rfl) _ rfl (nar_int _) (hr ((-1), I, L) (jx (P := P) kk (Eq.trans (if_neg c1) (if_neg c2)))) ⟨(Nat.le_of_ble_eq_true rfl), (Nat.le_of_ble_eq_true rfl)⟩))
theorem ct_X8_back  (I : WI) (L : WL) (a1 : Int32)  : Ct x_X8_back 3 [.ref 0, .int a1] ly0 I L R0 0 0 (some (.int (p1 (F_X8_back I L a1))), ly0, (p1 (p2 (F_X8_back I L a1))), (p2 (p2 (F_X8_back I L a1))), R0) :=
  Ct_of_V mo_X8_back.1 (Nat.le_of_ble_eq_true rfl) (V_X8_back (P := fun x => x = (F_X8_back I L a1))  (fun _ e => by rw [e]) rfl)
def F_X8_isLane_14 (a0 : Int32) (s0 : Int32) : Int32 :=
  s0
theorem V_X8_isLane_14  {I : WI} {L : WL} {a0 : Int32} {s0 : Int32} {P : Int32 → Prop} {t : Tg} (hs0 : bz s0 = s0) (hr : ∀ v, P v → t = (some (.int v), ly0, I, L, R0)) (kk : P (F_X8_isLane_14 a0 s0)) : V (zM x_X8_isLane 1 0 0 t) 14 [(0, .int a0)] [.int s0] ly0 I L R0 0 0 :=
  V_iret (tat ok_X8_isLane_0 (i := 8) (q := 15) rfl rfl) _ rfl (bz_nf hs0).1 (hr s0 (jx (P := P) kk rfl)) ⟨(Nat.le_of_ble_eq_true rfl), (Nat.le_of_ble_eq_true rfl)⟩
def F_X8_isLane_13 (a0 : Int32) : Int32 :=
  (F_X8_isLane_14 a0 0)
theorem V_X8_isLane_13  {I : WI} {L : WL} {a0 : Int32}  {P : Int32 → Prop} {t : Tg} (hr : ∀ v, P v → t = (some (.int v), ly0, I, L, R0)) (kk : P (F_X8_isLane_13 a0)) : V (zM x_X8_isLane 1 0 0 t) 13 [(0, .int a0)] [] ly0 I L R0 0 0 :=
  V_iconst (tat ok_X8_isLane_0 (i := 7) (q := 14) rfl rfl) ic_0 <|
    V_X8_isLane_14 rfl hr (jx (P := P) kk rfl)
def F_X8_isLane (a0 : Int32) : Int32 :=
  (if a0 < 0 then (F_X8_isLane_13 a0) else (if 2 < a0 then (F_X8_isLane_13 a0) else (F_X8_isLane_14 a0 1)))
theorem V_X8_isLane  {I : WI} {L : WL} {a0 : Int32}  {P : Int32 → Prop} {t : Tg} (hr : ∀ v, P v → t = (some (.int v), ly0, I, L, R0)) (kk : P (F_X8_isLane a0)) : V (zM x_X8_isLane 1 0 0 t) 0 [(0, .int a0)] [] ly0 I L R0 0 0 :=
  V_iload_n (tat ok_X8_isLane_0 (i := 0) (q := 1) rfl rfl) 0 rfl rfl <|
    V_if_lt (tat ok_X8_isLane_0 (i := 1) (q := 4) rfl rfl) rfl (fun c1 => V_X8_isLane_13  hr (jx (P := P) kk (if_pos c1))) (fun c1 => V_iload_n (tat ok_X8_isLane_0 (i := 2) (q := 5) rfl rfl) 0 rfl rfl <|
    V_iconst (tat ok_X8_isLane_0 (i := 3) (q := 6) rfl rfl) ic_2 <|
    V_icmp_gt (tat ok_X8_isLane_0 (i := 4) (q := 9) rfl rfl) rfl (fun c2 => V_X8_isLane_13  hr (jx (P := P) kk (Eq.trans (if_neg c1) (if_pos c2)))) (fun c2 => V_iconst (tat ok_X8_isLane_0 (i := 5) (q := 10) rfl rfl) ic_1 <|
    V_goto (tat ok_X8_isLane_0 (i := 6) (q := 13) rfl rfl) rfl <|
    V_X8_isLane_14 rfl hr (jx (P := P) kk (Eq.trans (if_neg c1) (if_neg c2)))))
theorem ct_X8_isLane  (I : WI) (L : WL) (a0 : Int32)  : Ct x_X8_isLane 1 [.int a0] ly0 I L R0 0 0 (some (.int (F_X8_isLane a0)), ly0, I, L, R0) :=
  Ct_of_V mo_X8_isLane.1 (Nat.le_of_ble_eq_true rfl) (V_X8_isLane (P := fun x => x = (F_X8_isLane a0))  (fun _ e => by rw [e]) rfl)
def F_X8_sheet_28 (I : WI) (a1 : Int32) (a2 : Int32) (a3 : Int32) : Option (Int32 × WI) :=
  some ((-1), I)
theorem V_X8_sheet_28  {I : WI} {L : WL} {a1 : Int32} {a2 : Int32} {a3 : Int32}  {P : (Int32 × WI) → Prop} {t : Tg} (hr : ∀ v, P v → t = (some (.int (p1 v)), ly0, (p2 v), L, R0)) : oP P (F_X8_sheet_28 I a1 a2 a3) → V (zM x_X8_sheet 2 0 0 t) 28 [(0, .ref 0), (1, .int a1), (2, .int a2), (3, .int a3)] [] ly0 I L R0 0 0 :=
  fun _ =>
  have kq : (oP P (F_X8_sheet_28 I a1 a2 a3)) ∧ True := ⟨by assumption, trivial⟩
  V_iconst (tat ok_X8_sheet_0 (i := 13) (q := 29) rfl rfl) ic_m1 <|
    V_iret (tat ok_X8_sheet_0 (i := 14) (q := 30) rfl rfl) _ rfl (nar_int _) (hr ((-1), I) (jq (P := oP P) kq rfl)) ⟨(Nat.le_of_ble_eq_true rfl), (Nat.le_of_ble_eq_true rfl)⟩
def F_X8_sheet (I : WI) (a1 : Int32) (a2 : Int32) (a3 : Int32) : Option (Int32 × WI) :=
  (if ¬ (a1 < 0 ∨ 4 ≤ Int32.toNatClampNeg a1) then (if (F_X8_isLane a2) = 0 then (F_X8_sheet_28 I a1 a2 a3) else (if a3 ≤ 40 then (if 0 ≤ a3 then (Option.bind (F_X3_renew I (sid a1) a2 a3) (fun v5 => some (1, v5))) else some ((-14), I)) else (F_X8_sheet_28 I a1 a2 a3))) else (F_X8_sheet_28 I a1 a2 a3))
theorem V_X8_sheet  {I : WI} {L : WL} {a1 : Int32} {a2 : Int32} {a3 : Int32}  {P : (Int32 × WI) → Prop} {t : Tg} (hr : ∀ v, P v → t = (some (.int (p1 v)), ly0, (p2 v), L, R0)) : oP P (F_X8_sheet I a1 a2 a3) → V (zM x_X8_sheet 2 0 0 t) 0 [(0, .ref 0), (1, .int a1), (2, .int a2), (3, .int a3)] [] ly0 I L R0 0 0 :=
  fun _ =>
  have kq : (oP P (F_X8_sheet I a1 a2 a3)) ∧ True := ⟨by assumption, trivial⟩
  V_aload_n (tat ok_X8_sheet_0 (i := 0) (q := 1) rfl rfl) 0 rfl rfl <|
    V_getR (tat ok_X8_sheet_0 (i := 1) (q := 4) rfl rfl) fk_X8_56 rfl rfl <|
    V_iload_n (tat ok_X8_sheet_0 (i := 2) (q := 5) rfl rfl) 1 rfl rfl <|
    (if c1 : ¬ (a1 < 0 ∨ 4 ≤ Int32.toNatClampNeg a1) then V_cv1 (ct_at1 I L a1 c1) mo_X4_at (tat ok_X8_sheet_0 (i := 3) (q := 8) rfl rfl) ml_X8_286 rfl ⟨by decide, _, rfl, rfl⟩ ⟨(Nat.le_of_ble_eq_true rfl), (Nat.le_of_ble_eq_true rfl)⟩ ⟨(Nat.le_of_ble_eq_true rfl), (Nat.le_of_ble_eq_true rfl)⟩ (Nat.le_of_ble_eq_true rfl) <|
    V_astore (lv' := [(4, .ref (sid a1)), (0, .ref 0), (1, .int a1), (2, .int a2), (3, .int a3)]) (tat ok_X8_sheet_0 (i := 4) (q := 10) rfl rfl) (isX3_lt (isX3_sid c1)) (Nat.le_of_ble_eq_true rfl) rfl <|
    V_aload (tat ok_X8_sheet_0 (i := 5) (q := 12) rfl rfl) 0 rfl <|
    V_ifnull (tat ok_X8_sheet_0 (i := 6) (q := 15) rfl rfl) (isX3_lt (isX3_sid c1)) <|
    V_iload_n (tat ok_X8_sheet_0 (i := 7) (q := 16) rfl rfl) 3 rfl rfl <|
    V_cs1 (ct_X8_isLane I L a2 ) mo_X8_isLane (tat ok_X8_sheet_0 (i := 8) (q := 19) rfl rfl) ml_X8_290 ⟨(Nat.le_of_ble_eq_true rfl), (Nat.le_of_ble_eq_true rfl)⟩ ⟨(Nat.le_of_ble_eq_true rfl), (Nat.le_of_ble_eq_true rfl)⟩ (Nat.le_of_ble_eq_true rfl) <|
    V_if_eq (tat ok_X8_sheet_0 (i := 9) (q := 22) rfl rfl) rfl (fun c2 => V_pick [1, 2, 3, 4] rfl (V_X8_sheet_28  hr (jq (P := oP P) kq (Eq.trans (if_pos c1) (if_pos c2))))) (fun c2 => V_iload_n (tat ok_X8_sheet_0 (i := 10) (q := 23) rfl rfl) 4 rfl rfl <|
    V_bipush (tat ok_X8_sheet_0 (i := 11) (q := 25) rfl rfl) bp_40 <|
    V_icmp_le (tat ok_X8_sheet_0 (i := 12) (q := 28) rfl rfl) rfl (fun c3 => V_iload_n (tat ok_X8_sheet_0 (i := 15) (q := 31) rfl rfl) 4 rfl rfl <|
    V_if_ge (tat ok_X8_sheet_0 (i := 16) (q := 34) rfl rfl) rfl (fun c4 => V_aload (tat ok_X8_sheet_0 (i := 19) (q := 39) rfl rfl) 0 rfl <|
    V_iload_n (tat ok_X8_sheet_0 (i := 20) (q := 40) rfl rfl) 3 rfl rfl <|
    V_iload_n (tat ok_X8_sheet_0 (i := 21) (q := 41) rfl rfl) 4 rfl rfl <|
    oP_case (jq (P := oP P) kq (Eq.trans (if_pos c1) (Eq.trans (if_neg c2) (Eq.trans (if_pos c3) (if_pos c4))))) (fun v5 e5 _ => V_cv2v (ct_X3_renew I L (sid a1) a2 a3 (isX3_sid c1) e5) mo_X3_renew (tat ok_X8_sheet_0 (i := 22) (q := 44) rfl rfl) ml_X8_296 (isX3_sid c1).1 ⟨by decide, _, rfl, rfl⟩ ⟨(Nat.le_of_ble_eq_true rfl), (Nat.le_of_ble_eq_true rfl)⟩ ⟨(Nat.le_of_ble_eq_true rfl), (Nat.le_of_ble_eq_true rfl)⟩ (Nat.le_of_ble_eq_true rfl) <|
    V_iconst (tat ok_X8_sheet_0 (i := 23) (q := 45) rfl rfl) ic_1 <|
    V_iret (tat ok_X8_sheet_0 (i := 24) (q := 46) rfl rfl) _ rfl (nar_int _) (hr (1, v5) (jq (P := oP P) kq (Eq.trans (if_pos c1) (Eq.trans (if_neg c2) (Eq.trans (if_pos c3) (Eq.trans (if_pos c4) (ob e5))))))) ⟨(Nat.le_of_ble_eq_true rfl), (Nat.le_of_ble_eq_true rfl)⟩)) (fun c4 => V_bipush (tat ok_X8_sheet_0 (i := 17) (q := 36) rfl rfl) bp_m14 <|
    V_iret (tat ok_X8_sheet_0 (i := 18) (q := 37) rfl rfl) _ rfl (nar_int _) (hr ((-14), I) (jq (P := oP P) kq (Eq.trans (if_pos c1) (Eq.trans (if_neg c2) (Eq.trans (if_pos c3) (if_neg c4)))))) ⟨(Nat.le_of_ble_eq_true rfl), (Nat.le_of_ble_eq_true rfl)⟩)) (fun c3 => V_pick [1, 2, 3, 4] rfl (V_X8_sheet_28  hr (jq (P := oP P) kq (Eq.trans (if_pos c1) (Eq.trans (if_neg c2) (if_neg c3))))))) else V_cv1 (ct_atN I L a1 c1) mo_X4_at (tat ok_X8_sheet_0 (i := 3) (q := 8) rfl rfl) ml_X8_286 rfl ⟨by decide, _, rfl, rfl⟩ ⟨(Nat.le_of_ble_eq_true rfl), (Nat.le_of_ble_eq_true rfl)⟩ ⟨(Nat.le_of_ble_eq_true rfl), (Nat.le_of_ble_eq_true rfl)⟩ (Nat.le_of_ble_eq_true rfl) <|
    V_astoreN (lv' := [(4, .null), (0, .ref 0), (1, .int a1), (2, .int a2), (3, .int a3)]) (tat ok_X8_sheet_0 (i := 4) (q := 10) rfl rfl) (Nat.le_of_ble_eq_true rfl) rfl <|
    V_aloadN (tat ok_X8_sheet_0 (i := 5) (q := 12) rfl rfl) 0 rfl <|
    V_ifnullN (tat ok_X8_sheet_0 (i := 6) (q := 15) rfl rfl) rfl <|
    V_pick [1, 2, 3, 4] rfl (V_X8_sheet_28  hr (jq (P := oP P) kq (if_neg c1))))
theorem ct_X8_sheet  (I : WI) (L : WL) (a1 : Int32) (a2 : Int32) (a3 : Int32)  {v : (Int32 × WI)} (h : (F_X8_sheet I a1 a2 a3) = some v) : Ct x_X8_sheet 2 [.ref 0, .int a1, .int a2, .int a3] ly0 I L R0 0 0 (some (.int (p1 v)), ly0, (p2 v), L, R0) :=
  Ct_of_V mo_X8_sheet.1 (Nat.le_of_ble_eq_true rfl) (V_X8_sheet (P := fun x => x = v)  (fun _ e => by rw [e]) (by rw [h]; exact rfl))
def F_X8_lay_44 (I : WI) (a1 : Int32) (a2 : Int32) (a3 : Int32) (s0 : Int32) : Option (Int32 × WI) :=
  some (s0, I)
theorem V_X8_lay_44  {I : WI} {L : WL} {a1 : Int32} {a2 : Int32} {a3 : Int32} {s0 : Int32} {P : (Int32 × WI) → Prop} {t : Tg} (hr : ∀ v, P v → t = (some (.int (p1 v)), ly0, (p2 v), L, R0)) : oP P (F_X8_lay_44 I a1 a2 a3 s0) → V (zM x_X8_lay 2 0 0 t) 44 [(0, .ref 0), (1, .int a1), (2, .int a2), (3, .int a3)] [.int s0] ly0 I L R0 0 0 :=
  fun _ =>
  have kq : (oP P (F_X8_lay_44 I a1 a2 a3 s0)) ∧ True := ⟨by assumption, trivial⟩
  V_iret (tat ok_X8_lay_0 (i := 22) (q := 45) rfl rfl) _ rfl (nar_int _) (hr (s0, I) (jq (P := oP P) kq rfl)) ⟨(Nat.le_of_ble_eq_true rfl), (Nat.le_of_ble_eq_true rfl)⟩
def F_X8_lay (I : WI) (a1 : Int32) (a2 : Int32) (a3 : Int32) : Option (Int32 × WI) :=
  (if ¬ (a1 < 0 ∨ 4 ≤ Int32.toNatClampNeg a1) then (if (F_X3_isNothing I (sid a1)) = 0 then (Option.bind (F_X3_put I (sid a1) a2 a3) (fun v3 => (if (p1 v3) = 0 then (F_X8_lay_44 (p2 v3) a1 a2 a3 (-12)) else (F_X8_lay_44 (p2 v3) a1 a2 a3 1)))) else some ((-11), I)) else some ((-1), I))
theorem V_X8_lay  {I : WI} {L : WL} {a1 : Int32} {a2 : Int32} {a3 : Int32}  {P : (Int32 × WI) → Prop} {t : Tg} (hr : ∀ v, P v → t = (some (.int (p1 v)), ly0, (p2 v), L, R0)) : oP P (F_X8_lay I a1 a2 a3) → V (zM x_X8_lay 2 0 0 t) 0 [(0, .ref 0), (1, .int a1), (2, .int a2), (3, .int a3)] [] ly0 I L R0 0 0 :=
  fun _ =>
  have kq : (oP P (F_X8_lay I a1 a2 a3)) ∧ True := ⟨by assumption, trivial⟩
  V_aload_n (tat ok_X8_lay_0 (i := 0) (q := 1) rfl rfl) 0 rfl rfl <|
    V_getR (tat ok_X8_lay_0 (i := 1) (q := 4) rfl rfl) fk_X8_56 rfl rfl <|
    V_iload_n (tat ok_X8_lay_0 (i := 2) (q := 5) rfl rfl) 1 rfl rfl <|
    (if c1 : ¬ (a1 < 0 ∨ 4 ≤ Int32.toNatClampNeg a1) then V_cv1 (ct_at1 I L a1 c1) mo_X4_at (tat ok_X8_lay_0 (i := 3) (q := 8) rfl rfl) ml_X8_286 rfl ⟨by decide, _, rfl, rfl⟩ ⟨(Nat.le_of_ble_eq_true rfl), (Nat.le_of_ble_eq_true rfl)⟩ ⟨(Nat.le_of_ble_eq_true rfl), (Nat.le_of_ble_eq_true rfl)⟩ (Nat.le_of_ble_eq_true rfl) <|
    V_astore (lv' := [(4, .ref (sid a1)), (0, .ref 0), (1, .int a1), (2, .int a2), (3, .int a3)]) (tat ok_X8_lay_0 (i := 4) (q := 10) rfl rfl) (isX3_lt (isX3_sid c1)) (Nat.le_of_ble_eq_true rfl) rfl <|
    V_aload (tat ok_X8_lay_0 (i := 5) (q := 12) rfl rfl) 0 rfl <|
    V_ifnonnull (tat ok_X8_lay_0 (i := 6) (q := 15) rfl rfl) (isX3_lt (isX3_sid c1)) rfl <|
    V_aload (tat ok_X8_lay_0 (i := 9) (q := 19) rfl rfl) 0 rfl <|
    V_cv0 (ct_X3_isNothing I L (sid a1) (isX3_sid c1)) mo_X3_isNothing (tat ok_X8_lay_0 (i := 10) (q := 22) rfl rfl) ml_X8_300 (isX3_sid c1).1 ⟨by decide, _, rfl, rfl⟩ ⟨(Nat.le_of_ble_eq_true rfl), (Nat.le_of_ble_eq_true rfl)⟩ ⟨(Nat.le_of_ble_eq_true rfl), (Nat.le_of_ble_eq_true rfl)⟩ (Nat.le_of_ble_eq_true rfl) <|
    V_if_eq (tat ok_X8_lay_0 (i := 11) (q := 25) rfl rfl) rfl (fun c2 => V_aload (tat ok_X8_lay_0 (i := 14) (q := 30) rfl rfl) 0 rfl <|
    V_iload_n (tat ok_X8_lay_0 (i := 15) (q := 31) rfl rfl) 3 rfl rfl <|
    V_iload_n (tat ok_X8_lay_0 (i := 16) (q := 32) rfl rfl) 4 rfl rfl <|
    oP_case (jq (P := oP P) kq (Eq.trans (if_pos c1) (if_pos c2))) (fun v3 e3 _ => V_cv2 (ct_X3_put I L (sid a1) a2 a3 (isX3_sid c1) e3) mo_X3_put (tat ok_X8_lay_0 (i := 17) (q := 35) rfl rfl) ml_X8_304 (isX3_sid c1).1 ⟨by decide, _, rfl, rfl⟩ ⟨(Nat.le_of_ble_eq_true rfl), (Nat.le_of_ble_eq_true rfl)⟩ ⟨(Nat.le_of_ble_eq_true rfl), (Nat.le_of_ble_eq_true rfl)⟩ (Nat.le_of_ble_eq_true rfl) <|
    V_if_eq (tat ok_X8_lay_0 (i := 18) (q := 38) rfl rfl) rfl (fun c4 => V_bipush (tat ok_X8_lay_0 (i := 21) (q := 44) rfl rfl) bp_m12 <|
    V_pick [1, 2, 3, 4] rfl (V_X8_lay_44  hr (jq (P := oP P) kq (Eq.trans (if_pos c1) (Eq.trans (if_pos c2) (Eq.trans (ob e3) (if_pos c4))))))) (fun c4 => V_iconst (tat ok_X8_lay_0 (i := 19) (q := 39) rfl rfl) ic_1 <|
    V_goto (tat ok_X8_lay_0 (i := 20) (q := 42) rfl rfl) rfl <|
    V_pick [1, 2, 3, 4] rfl (V_X8_lay_44  hr (jq (P := oP P) kq (Eq.trans (if_pos c1) (Eq.trans (if_pos c2) (Eq.trans (ob e3) (if_neg c4))))))))) (fun c2 => V_bipush (tat ok_X8_lay_0 (i := 12) (q := 27) rfl rfl) bp_m11 <|
    V_iret (tat ok_X8_lay_0 (i := 13) (q := 28) rfl rfl) _ rfl (nar_int _) (hr ((-11), I) (jq (P := oP P) kq (Eq.trans (if_pos c1) (if_neg c2)))) ⟨(Nat.le_of_ble_eq_true rfl), (Nat.le_of_ble_eq_true rfl)⟩) else V_cv1 (ct_atN I L a1 c1) mo_X4_at (tat ok_X8_lay_0 (i := 3) (q := 8) rfl rfl) ml_X8_286 rfl ⟨by decide, _, rfl, rfl⟩ ⟨(Nat.le_of_ble_eq_true rfl), (Nat.le_of_ble_eq_true rfl)⟩ ⟨(Nat.le_of_ble_eq_true rfl), (Nat.le_of_ble_eq_true rfl)⟩ (Nat.le_of_ble_eq_true rfl) <|
    V_astoreN (lv' := [(4, .null), (0, .ref 0), (1, .int a1), (2, .int a2), (3, .int a3)]) (tat ok_X8_lay_0 (i := 4) (q := 10) rfl rfl) (Nat.le_of_ble_eq_true rfl) rfl <|
    V_aloadN (tat ok_X8_lay_0 (i := 5) (q := 12) rfl rfl) 0 rfl <|
    V_ifnonnullN (tat ok_X8_lay_0 (i := 6) (q := 15) rfl rfl) <|
    V_iconst (tat ok_X8_lay_0 (i := 7) (q := 16) rfl rfl) ic_m1 <|
    V_iret (tat ok_X8_lay_0 (i := 8) (q := 17) rfl rfl) _ rfl (nar_int _) (hr ((-1), I) (jq (P := oP P) kq (if_neg c1))) ⟨(Nat.le_of_ble_eq_true rfl), (Nat.le_of_ble_eq_true rfl)⟩)
theorem ct_X8_lay  (I : WI) (L : WL) (a1 : Int32) (a2 : Int32) (a3 : Int32)  {v : (Int32 × WI)} (h : (F_X8_lay I a1 a2 a3) = some v) : Ct x_X8_lay 2 [.ref 0, .int a1, .int a2, .int a3] ly0 I L R0 0 0 (some (.int (p1 v)), ly0, (p2 v), L, R0) :=
  Ct_of_V mo_X8_lay.1 (Nat.le_of_ble_eq_true rfl) (V_X8_lay (P := fun x => x = v)  (fun _ e => by rw [e]) (by rw [h]; exact rfl))
def F_X8_read_34 (I : WI) (L : WL) (a1 : Int32) (a2 : Int32) (a3 : Int32) (a4 : Int32) : (Int32 × WI × WL) :=
  ((-1), I, L)
theorem V_X8_read_34  {I : WI} {L : WL} {a1 : Int32} {a2 : Int32} {a3 : Int32} {a4 : Int32}  {P : (Int32 × WI × WL) → Prop} {t : Tg} (hr : ∀ v, P v → t = (some (.int (p1 v)), ly0, (p1 (p2 v)), (p2 (p2 v)), R0)) (kk : P (F_X8_read_34 I L a1 a2 a3 a4)) : V (zM x_X8_read 4 0 0 t) 34 [(0, .ref 0), (1, .int a1), (2, .int a2), (3, .int a3), (4, .int a4)] [] ly0 I L R0 0 0 :=
  V_iconst (tat ok_X8_read_0 (i := 15) (q := 35) rfl rfl) ic_m1 <|
    V_iret (tat ok_X8_read_0 (i := 16) (q := 36) rfl rfl) _ rfl (nar_int _) (hr ((-1), I, L) (jx (P := P) kk rfl)) ⟨(Nat.le_of_ble_eq_true rfl), (Nat.le_of_ble_eq_true rfl)⟩
def F_X8_read_85_1 (I : WI) (L : WL) (a1 : Int32) (a2 : Int32) (a3 : Int32) (a4 : Int32) (r5 : Nat) (a6 : Int32) (a7 : Int32) (a8 : Int32) : ((Int32 × WI × WL) ⊕ Unit) :=
  (if (F_X0_hasLine I 1 (F_X3_cell I r5 (a3 + (2 * a8))) (F_X3_cell I r5 ((a3 + (2 * a8)) + 1))) = 0 then .inl (((-20) - a8), I, L) else .inr ())
theorem V_X8_read_85_1  {I : WI} {L : WL} {a1 : Int32} {a2 : Int32} {a3 : Int32} {a4 : Int32} {r5 : Nat} {a6 : Int32} {a7 : Int32} {a8 : Int32}  {P : ((Int32 × WI × WL) ⊕ Unit) → Prop} {t : Tg} (hr5 : isX3 r5) (hr : ∀ v, P (.inl v) → t = (some (.int (p1 v)), ly0, (p1 (p2 v)), (p2 (p2 v)), R0)) (hk : ∀ x : Unit, P (.inr x) → V (zM x_X8_read 4 0 0 t) 78 [(0, .ref 0), (1, .int a1), (2, .int a2), (3, .int a3), (4, .int a4), (5, .ref r5), (6, .int a6), (7, .int a7), (8, .int (a8 + 1))] [] ly0 I L R0 0 0) (kk : P (F_X8_read_85_1 I L a1 a2 a3 a4 r5 a6 a7 a8)) : V (zM x_X8_read 4 0 0 t) 85 [(0, .ref 0), (1, .int a1), (2, .int a2), (3, .int a3), (4, .int a4), (5, .ref r5), (6, .int a6), (7, .int a7), (8, .int a8)] [] ly0 I L R0 0 0 :=
  V_aload_n (tat ok_X8_read_1 (i := 0) (q := 86) rfl rfl) 0 rfl rfl <|
    V_getR (tat ok_X8_read_1 (i := 1) (q := 89) rfl rfl) fk_X8_14 rfl rfl <|
    V_aload (tat ok_X8_read_1 (i := 2) (q := 91) rfl rfl) 5 rfl <|
    V_iload_n (tat ok_X8_read_1 (i := 3) (q := 92) rfl rfl) 3 rfl rfl <|
    V_iconst (tat ok_X8_read_1 (i := 4) (q := 93) rfl rfl) ic_2 <|
    V_iload (tat ok_X8_read_1 (i := 5) (q := 95) rfl rfl) 8 rfl <|
    V_imul (tat ok_X8_read_1 (i := 6) (q := 96) rfl rfl) <|
    V_iadd (tat ok_X8_read_1 (i := 7) (q := 97) rfl rfl) <|
    V_cv1 (ct_X3_cell I L r5 (a3 + (2 * a8)) hr5) mo_X3_cell (tat ok_X8_read_1 (i := 8) (q := 100) rfl rfl) ml_X8_316 hr5.1 ⟨by decide, _, rfl, rfl⟩ ⟨(Nat.le_of_ble_eq_true rfl), (Nat.le_of_ble_eq_true rfl)⟩ ⟨(Nat.le_of_ble_eq_true rfl), (Nat.le_of_ble_eq_true rfl)⟩ (Nat.le_of_ble_eq_true rfl) <|
    V_aload (tat ok_X8_read_1 (i := 9) (q := 102) rfl rfl) 5 rfl <|
    V_iload_n (tat ok_X8_read_1 (i := 10) (q := 103) rfl rfl) 3 rfl rfl <|
    V_iconst (tat ok_X8_read_1 (i := 11) (q := 104) rfl rfl) ic_2 <|
    V_iload (tat ok_X8_read_1 (i := 12) (q := 106) rfl rfl) 8 rfl <|
    V_imul (tat ok_X8_read_1 (i := 13) (q := 107) rfl rfl) <|
    V_iadd (tat ok_X8_read_1 (i := 14) (q := 108) rfl rfl) <|
    V_iconst (tat ok_X8_read_1 (i := 15) (q := 109) rfl rfl) ic_1 <|
    V_iadd (tat ok_X8_read_1 (i := 16) (q := 110) rfl rfl) <|
    V_cv1 (ct_X3_cell I L r5 ((a3 + (2 * a8)) + 1) hr5) mo_X3_cell (tat ok_X8_read_1 (i := 17) (q := 113) rfl rfl) ml_X8_316 hr5.1 ⟨by decide, _, rfl, rfl⟩ ⟨(Nat.le_of_ble_eq_true rfl), (Nat.le_of_ble_eq_true rfl)⟩ ⟨(Nat.le_of_ble_eq_true rfl), (Nat.le_of_ble_eq_true rfl)⟩ (Nat.le_of_ble_eq_true rfl) <|
    V_cv2 (ct_X0_hasLine I L 1 (F_X3_cell I r5 (a3 + (2 * a8))) (F_X3_cell I r5 ((a3 + (2 * a8)) + 1)) rfl) mo_X0_hasLine (tat ok_X8_read_1 (i := 18) (q := 116) rfl rfl) ml_X8_152 rfl ⟨by decide, _, rfl, rfl⟩ ⟨(Nat.le_of_ble_eq_true rfl), (Nat.le_of_ble_eq_true rfl)⟩ ⟨(Nat.le_of_ble_eq_true rfl), (Nat.le_of_ble_eq_true rfl)⟩ (Nat.le_of_ble_eq_true rfl) <|
    V_if_ne (tat ok_X8_read_1 (i := 19) (q := 119) rfl rfl) rfl (fun c7 => V_iinc (v := (a8 + 1)) (lv' := [(8, .int (a8 + 1)), (0, .ref 0), (1, .int a1), (2, .int a2), (3, .int a3), (4, .int a4), (5, .ref r5), (6, .int a6), (7, .int a7)]) (tat ok_X8_read_1 (i := 24) (q := 128) rfl rfl) 8 rfl (ia ic_1) (Nat.le_of_ble_eq_true rfl) rfl <|
    V_goto (tat ok_X8_read_1 (i := 25) (q := 131) rfl rfl) rfl <|
    V_pick [1, 2, 3, 4, 5, 6, 7, 8, 0] rfl (hk () (jx (P := P) kk (if_neg c7)))) (fun c7 => V_bipush (tat ok_X8_read_1 (i := 20) (q := 121) rfl rfl) bp_m20 <|
    V_iload (tat ok_X8_read_1 (i := 21) (q := 123) rfl rfl) 8 rfl <|
    V_isub (tat ok_X8_read_1 (i := 22) (q := 124) rfl rfl) <|
    V_iret (tat ok_X8_read_1 (i := 23) (q := 125) rfl rfl) _ rfl (nar_int _) (hr (((-20) - a8), I, L) (jx (P := P) kk (if_pos c7))) ⟨(Nat.le_of_ble_eq_true rfl), (Nat.le_of_ble_eq_true rfl)⟩)
def F_X8_read_141_2 (I : WI) (L : WL) (a1 : Int32) (a2 : Int32) (a3 : Int32) (a4 : Int32) (r5 : Nat) (a6 : Int32) (a7 : Int32) (a8 : Int32) : WL :=
  (u2 L 1 3 ((L 1 3) ^^^ (F_X0_squaresOf I 1 (F_X3_cell I r5 (a3 + (2 * a8))) (F_X3_cell I r5 ((a3 + (2 * a8)) + 1)))))
theorem V_X8_read_141_2  {I : WI} {L : WL} {a1 : Int32} {a2 : Int32} {a3 : Int32} {a4 : Int32} {r5 : Nat} {a6 : Int32} {a7 : Int32} {a8 : Int32}  {P : WL → Prop} {t : Tg} (hr5 : isX3 r5) (hk : ∀ x : WL, P x → V (zM x_X8_read 4 0 0 t) 134 [(0, .ref 0), (1, .int a1), (2, .int a2), (3, .int a3), (4, .int a4), (5, .ref r5), (6, .int a6), (7, .int a7), (8, .int (a8 + 1))] [] ly0 I x R0 0 0) (kk : P (F_X8_read_141_2 I L a1 a2 a3 a4 r5 a6 a7 a8)) : V (zM x_X8_read 4 0 0 t) 141 [(0, .ref 0), (1, .int a1), (2, .int a2), (3, .int a3), (4, .int a4), (5, .ref r5), (6, .int a6), (7, .int a7), (8, .int a8)] [] ly0 I L R0 0 0 :=
  V_aload_n (tat ok_X8_read_1 (i := 31) (q := 142) rfl rfl) 0 rfl rfl <|
    V_getR (tat ok_X8_read_1 (i := 32) (q := 145) rfl rfl) fk_X8_14 rfl rfl <|
    V_dup (tat ok_X8_read_1 (i := 33) (q := 146) rfl rfl) rfl <|
    V_getL (tat ok_X8_read_1 (i := 34) (q := 149) rfl rfl) fk_X8_137 rfl <|
    V_aload_n (tat ok_X8_read_1 (i := 35) (q := 150) rfl rfl) 0 rfl rfl <|
    V_getR (tat ok_X8_read_1 (i := 36) (q := 153) rfl rfl) fk_X8_14 rfl rfl <|
    V_aload (tat ok_X8_read_1 (i := 37) (q := 155) rfl rfl) 5 rfl <|
    V_iload_n (tat ok_X8_read_1 (i := 38) (q := 156) rfl rfl) 3 rfl rfl <|
    V_iconst (tat ok_X8_read_1 (i := 39) (q := 157) rfl rfl) ic_2 <|
    V_iload (tat ok_X8_read_2 (i := 0) (q := 159) rfl rfl) 8 rfl <|
    V_imul (tat ok_X8_read_2 (i := 1) (q := 160) rfl rfl) <|
    V_iadd (tat ok_X8_read_2 (i := 2) (q := 161) rfl rfl) <|
    V_cv1 (ct_X3_cell I L r5 (a3 + (2 * a8)) hr5) mo_X3_cell (tat ok_X8_read_2 (i := 3) (q := 164) rfl rfl) ml_X8_316 hr5.1 ⟨by decide, _, rfl, rfl⟩ ⟨(Nat.le_of_ble_eq_true rfl), (Nat.le_of_ble_eq_true rfl)⟩ ⟨(Nat.le_of_ble_eq_true rfl), (Nat.le_of_ble_eq_true rfl)⟩ (Nat.le_of_ble_eq_true rfl) <|
    V_aload (tat ok_X8_read_2 (i := 4) (q := 166) rfl rfl) 5 rfl <|
    V_iload_n (tat ok_X8_read_2 (i := 5) (q := 167) rfl rfl) 3 rfl rfl <|
    V_iconst (tat ok_X8_read_2 (i := 6) (q := 168) rfl rfl) ic_2 <|
    V_iload (tat ok_X8_read_2 (i := 7) (q := 170) rfl rfl) 8 rfl <|
    V_imul (tat ok_X8_read_2 (i := 8) (q := 171) rfl rfl) <|
    V_iadd (tat ok_X8_read_2 (i := 9) (q := 172) rfl rfl) <|
    V_iconst (tat ok_X8_read_2 (i := 10) (q := 173) rfl rfl) ic_1 <|
    V_iadd (tat ok_X8_read_2 (i := 11) (q := 174) rfl rfl) <|
    V_cv1 (ct_X3_cell I L r5 ((a3 + (2 * a8)) + 1) hr5) mo_X3_cell (tat ok_X8_read_2 (i := 12) (q := 177) rfl rfl) ml_X8_316 hr5.1 ⟨by decide, _, rfl, rfl⟩ ⟨(Nat.le_of_ble_eq_true rfl), (Nat.le_of_ble_eq_true rfl)⟩ ⟨(Nat.le_of_ble_eq_true rfl), (Nat.le_of_ble_eq_true rfl)⟩ (Nat.le_of_ble_eq_true rfl) <|
    V_cv2 (ct_X0_squaresOf I L 1 (F_X3_cell I r5 (a3 + (2 * a8))) (F_X3_cell I r5 ((a3 + (2 * a8)) + 1)) rfl) mo_X0_squaresOf (tat ok_X8_read_2 (i := 13) (q := 180) rfl rfl) ml_X8_155 rfl ⟨by decide, _, rfl, rfl⟩ ⟨(Nat.le_of_ble_eq_true rfl), (Nat.le_of_ble_eq_true rfl)⟩ ⟨(Nat.le_of_ble_eq_true rfl), (Nat.le_of_ble_eq_true rfl)⟩ (Nat.le_of_ble_eq_true rfl) <|
    V_lxor (tat ok_X8_read_2 (i := 14) (q := 181) rfl rfl) <|
    V_putL (tat ok_X8_read_2 (i := 15) (q := 184) rfl rfl) fk_X8_137 rfl rfl <|
    V_iinc (v := (a8 + 1)) (lv' := [(8, .int (a8 + 1)), (0, .ref 0), (1, .int a1), (2, .int a2), (3, .int a3), (4, .int a4), (5, .ref r5), (6, .int a6), (7, .int a7)]) (tat ok_X8_read_2 (i := 16) (q := 187) rfl rfl) 8 rfl (ia ic_1) (Nat.le_of_ble_eq_true rfl) rfl <|
    V_goto (tat ok_X8_read_2 (i := 17) (q := 190) rfl rfl) rfl <|
    V_pick [1, 2, 3, 4, 5, 6, 7, 8, 0] rfl (hk (u2 L 1 3 ((L 1 3) ^^^ (F_X0_squaresOf I 1 (F_X3_cell I r5 (a3 + (2 * a8))) (F_X3_cell I r5 ((a3 + (2 * a8)) + 1))))) (jx (P := P) kk rfl))
def F_X8_read_209 (I : WI) (L : WL) (a1 : Int32) (a2 : Int32) (a3 : Int32) (a4 : Int32) (a7 : Int32) (s0 : Int32) : (Int32 × WI × WL) :=
  (a7, (u2 I 0 14 s0), L)
theorem V_X8_read_209  {I : WI} {L : WL} {a1 : Int32} {a2 : Int32} {a3 : Int32} {a4 : Int32} {a7 : Int32} {s0 : Int32} {P : (Int32 × WI × WL) → Prop} {t : Tg} (hr : ∀ v, P v → t = (some (.int (p1 v)), ly0, (p1 (p2 v)), (p2 (p2 v)), R0)) (kk : P (F_X8_read_209 I L a1 a2 a3 a4 a7 s0)) : V (zM x_X8_read 4 0 0 t) 209 [(0, .ref 0), (1, .int a1), (2, .int a2), (3, .int a3), (4, .int a4), (7, .int a7)] [.int s0, .ref 0] ly0 I L R0 0 0 :=
  V_putI (tat ok_X8_read_2 (i := 27) (q := 212) rfl rfl) fk_X8_319 rfl rfl <|
    V_iload (tat ok_X8_read_2 (i := 28) (q := 214) rfl rfl) 5 rfl <|
    V_iret (tat ok_X8_read_2 (i := 29) (q := 215) rfl rfl) _ rfl (nar_int _) (hr (a7, (u2 I 0 14 s0), L) (jx (P := P) kk rfl)) ⟨(Nat.le_of_ble_eq_true rfl), (Nat.le_of_ble_eq_true rfl)⟩
def F_X8_read_207 (I : WI) (L : WL) (a1 : Int32) (a2 : Int32) (a3 : Int32) (a4 : Int32) (a6 : Int32) (a7 : Int32) : (Int32 × WI × WL) :=
  (F_X8_read_209 I L a1 a2 a3 a4 a7 a6)
theorem V_X8_read_207  {I : WI} {L : WL} {a1 : Int32} {a2 : Int32} {a3 : Int32} {a4 : Int32} {a6 : Int32} {a7 : Int32} {P : (Int32 × WI × WL) → Prop} {t : Tg} (hr : ∀ v, P v → t = (some (.int (p1 v)), ly0, (p1 (p2 v)), (p2 (p2 v)), R0)) (kk : P (F_X8_read_207 I L a1 a2 a3 a4 a6 a7)) : V (zM x_X8_read 4 0 0 t) 207 [(0, .ref 0), (1, .int a1), (2, .int a2), (3, .int a3), (4, .int a4), (6, .int a6), (7, .int a7)] [.ref 0] ly0 I L R0 0 0 :=
  V_iload (tat ok_X8_read_2 (i := 26) (q := 209) rfl rfl) 5 rfl <|
    V_pick [0, 1, 2, 3, 4, 6] rfl (V_X8_read_209  hr (jx (P := P) kk rfl))
def F_X8_read_190 (I : WI) (L : WL) (a1 : Int32) (a2 : Int32) (a3 : Int32) (a4 : Int32) (a6 : Int32) (a7 : Int32) : (Int32 × WI × WL) :=
  (if a6 = 0 then (if a4 ≤ a7 then (F_X8_read_207 I L a1 a2 a3 a4 a6 a7) else (F_X8_read_209 I L a1 a2 a3 a4 a7 2)) else (F_X8_read_207 I L a1 a2 a3 a4 a6 a7))
theorem V_X8_read_190  {I : WI} {L : WL} {a1 : Int32} {a2 : Int32} {a3 : Int32} {a4 : Int32} {a6 : Int32} {a7 : Int32} {P : (Int32 × WI × WL) → Prop} {t : Tg} (hr : ∀ v, P v → t = (some (.int (p1 v)), ly0, (p1 (p2 v)), (p2 (p2 v)), R0)) (kk : P (F_X8_read_190 I L a1 a2 a3 a4 a6 a7)) : V (zM x_X8_read 4 0 0 t) 190 [(0, .ref 0), (1, .int a1), (2, .int a2), (3, .int a3), (4, .int a4), (6, .int a6), (7, .int a7)] [] ly0 I L R0 0 0 :=
  V_aload_n (tat ok_X8_read_2 (i := 18) (q := 191) rfl rfl) 0 rfl rfl <|
    V_iload (tat ok_X8_read_2 (i := 19) (q := 193) rfl rfl) 5 rfl <|
    V_if_ne (tat ok_X8_read_2 (i := 20) (q := 196) rfl rfl) rfl (fun c8 => V_X8_read_207  hr (jx (P := P) kk (if_neg c8))) (fun c8 => V_iload (tat ok_X8_read_2 (i := 21) (q := 198) rfl rfl) 6 rfl <|
    V_iload (tat ok_X8_read_2 (i := 22) (q := 200) rfl rfl) 4 rfl <|
    V_icmp_ge (tat ok_X8_read_2 (i := 23) (q := 203) rfl rfl) rfl (fun c9 => V_X8_read_207  hr (jx (P := P) kk (Eq.trans (if_pos c8) (if_pos c9)))) (fun c9 => V_iconst (tat ok_X8_read_2 (i := 24) (q := 204) rfl rfl) ic_2 <|
    V_goto (tat ok_X8_read_2 (i := 25) (q := 207) rfl rfl) rfl <|
    V_pick [0, 1, 2, 3, 4, 6] rfl (V_X8_read_209  hr (jx (P := P) kk (Eq.trans (if_pos c8) (if_neg c9))))))
def F_X8_read_134 (I : WI) (L : WL) (a1 : Int32) (a2 : Int32) (a3 : Int32) (a4 : Int32) (r5 : Nat) (a6 : Int32) (a7 : Int32) (a8 : Int32) : (Int32 × WI × WL) :=
  (fun q : Int32 × WL => (F_X8_read_190 I (p2 q) a1 a2 a3 a4 a6 a7)) (fr0 (fun i x => (F_X8_read_141_2 I x a1 a2 a3 a4 r5 a6 a7 i)) a7 (fu a8 a7) a8 L)
theorem V_X8_read_134  {I : WI} {L : WL} {a1 : Int32} {a2 : Int32} {a3 : Int32} {a4 : Int32} {r5 : Nat} {a6 : Int32} {a7 : Int32} {a8 : Int32} {P : (Int32 × WI × WL) → Prop} {t : Tg} (hr5 : isX3 r5) (hb8 : bz a8 = a8) (hr : ∀ v, P v → t = (some (.int (p1 v)), ly0, (p1 (p2 v)), (p2 (p2 v)), R0)) (kk : P (F_X8_read_134 I L a1 a2 a3 a4 r5 a6 a7 a8)) : V (zM x_X8_read 4 0 0 t) 134 [(0, .ref 0), (1, .int a1), (2, .int a2), (3, .int a3), (4, .int a4), (5, .ref r5), (6, .int a6), (7, .int a7), (8, .int a8)] [] ly0 I L R0 0 0 :=
  V_fr0 (fun i x => (F_X8_read_141_2 I x a1 a2 a3 a4 r5 a6 a7 i)) a7 (fun i x => V (zM x_X8_read 4 0 0 t) 134 [(0, .ref 0), (1, .int a1), (2, .int a2), (3, .int a3), (4, .int a4), (5, .ref r5), (6, .int a6), (7, .int a7), (8, .int i)] [] ly0 I x R0 0 0) (fun i x => P ((F_X8_read_190 I x a1 a2 a3 a4 a6 a7))) (c := a8) (s := L) (fun i x kx kb => V_iload (tat ok_X8_read_1 (i := 28) (q := 136) rfl rfl) 8 rfl <|
    V_iload (tat ok_X8_read_1 (i := 29) (q := 138) rfl rfl) 7 rfl <|
    V_icmp_ge (tat ok_X8_read_1 (i := 30) (q := 141) rfl rfl) rfl (fun c0 => V_pick [0, 1, 2, 3, 4, 6, 7] rfl (V_X8_read_190  hr (kx c0))) (fun c0 => V_X8_read_141_2 (P := (fun x => (fun i x => V (zM x_X8_read 4 0 0 t) 134 [(0, .ref 0), (1, .int a1), (2, .int a2), (3, .int a3), (4, .int a4), (5, .ref r5), (6, .int a6), (7, .int a7), (8, .int i)] [] ly0 I x R0 0 0) (i + 1) x)) hr5 (fun _ e => e) (kb c0))) kk
def F_X8_read_131 (I : WI) (L : WL) (a1 : Int32) (a2 : Int32) (a3 : Int32) (a4 : Int32) (r5 : Nat) (a6 : Int32) (a7 : Int32) : (Int32 × WI × WL) :=
  (F_X8_read_134 I L a1 a2 a3 a4 r5 a6 a7 0)
theorem V_X8_read_131  {I : WI} {L : WL} {a1 : Int32} {a2 : Int32} {a3 : Int32} {a4 : Int32} {r5 : Nat} {a6 : Int32} {a7 : Int32} {P : (Int32 × WI × WL) → Prop} {t : Tg} (hr5 : isX3 r5) (hr : ∀ v, P v → t = (some (.int (p1 v)), ly0, (p1 (p2 v)), (p2 (p2 v)), R0)) (kk : P (F_X8_read_131 I L a1 a2 a3 a4 r5 a6 a7)) : V (zM x_X8_read 4 0 0 t) 131 [(0, .ref 0), (1, .int a1), (2, .int a2), (3, .int a3), (4, .int a4), (5, .ref r5), (6, .int a6), (7, .int a7)] [] ly0 I L R0 0 0 :=
  V_iconst (tat ok_X8_read_1 (i := 26) (q := 132) rfl rfl) ic_0 <|
    V_istore (lv' := [(8, .int 0), (0, .ref 0), (1, .int a1), (2, .int a2), (3, .int a3), (4, .int a4), (5, .ref r5), (6, .int a6), (7, .int a7)]) (tat ok_X8_read_1 (i := 27) (q := 134) rfl rfl) (Nat.le_of_ble_eq_true rfl) rfl <|
    V_pick [1, 2, 3, 4, 5, 6, 7, 8, 0] rfl (V_X8_read_134 hr5 rfl hr (jx (P := P) kk rfl))
def F_X8_read_78 (I : WI) (L : WL) (a1 : Int32) (a2 : Int32) (a3 : Int32) (a4 : Int32) (r5 : Nat) (a6 : Int32) (a7 : Int32) (a8 : Int32) : (Int32 × WI × WL) :=
  Sum.elim (fun r => r) (fun q => (F_X8_read_131 I L a1 a2 a3 a4 r5 a6 a7)) (fr1 (fun i x => (F_X8_read_85_1 I L a1 a2 a3 a4 r5 a6 a7 i)) a7 (fu a8 a7) a8 ())
theorem V_X8_read_78  {I : WI} {L : WL} {a1 : Int32} {a2 : Int32} {a3 : Int32} {a4 : Int32} {r5 : Nat} {a6 : Int32} {a7 : Int32} {a8 : Int32} {P : (Int32 × WI × WL) → Prop} {t : Tg} (hr5 : isX3 r5) (hb8 : bz a8 = a8) (hr : ∀ v, P v → t = (some (.int (p1 v)), ly0, (p1 (p2 v)), (p2 (p2 v)), R0)) (kk : P (F_X8_read_78 I L a1 a2 a3 a4 r5 a6 a7 a8)) : V (zM x_X8_read 4 0 0 t) 78 [(0, .ref 0), (1, .int a1), (2, .int a2), (3, .int a3), (4, .int a4), (5, .ref r5), (6, .int a6), (7, .int a7), (8, .int a8)] [] ly0 I L R0 0 0 :=
  V_fr1 (fun i x => (F_X8_read_85_1 I L a1 a2 a3 a4 r5 a6 a7 i)) a7 (fun i x => V (zM x_X8_read 4 0 0 t) 78 [(0, .ref 0), (1, .int a1), (2, .int a2), (3, .int a3), (4, .int a4), (5, .ref r5), (6, .int a6), (7, .int a7), (8, .int i)] [] ly0 I L R0 0 0) (fun i x => P ((F_X8_read_131 I L a1 a2 a3 a4 r5 a6 a7))) (fun r => P (r)) (c := a8) (s := ()) (fun i x kx kb => V_iload (tat ok_X8_read_0 (i := 37) (q := 80) rfl rfl) 8 rfl <|
    V_iload (tat ok_X8_read_0 (i := 38) (q := 82) rfl rfl) 7 rfl <|
    V_icmp_ge (tat ok_X8_read_0 (i := 39) (q := 85) rfl rfl) rfl (fun c0 => V_pick [0, 1, 2, 3, 4, 5, 6, 7] rfl (V_X8_read_131 hr5 hr (kx c0))) (fun c0 => V_X8_read_85_1 (P := (Sum.elim (fun r => P (r)) (fun x => (fun i x => V (zM x_X8_read 4 0 0 t) 78 [(0, .ref 0), (1, .int a1), (2, .int a2), (3, .int a3), (4, .int a4), (5, .ref r5), (6, .int a6), (7, .int a7), (8, .int i)] [] ly0 I L R0 0 0) (i + 1) x))) hr5 (fun v e => hr v e) (fun _ e => e) (kb c0))) (sE kk)
def F_X8_read_73 (I : WI) (L : WL) (a1 : Int32) (a2 : Int32) (a3 : Int32) (a4 : Int32) (r5 : Nat) (a6 : Int32) (s0 : Int32) : (Int32 × WI × WL) :=
  (F_X8_read_78 I L a1 a2 a3 a4 r5 a6 s0 0)
theorem V_X8_read_73  {I : WI} {L : WL} {a1 : Int32} {a2 : Int32} {a3 : Int32} {a4 : Int32} {r5 : Nat} {a6 : Int32} {s0 : Int32} {P : (Int32 × WI × WL) → Prop} {t : Tg} (hr5 : isX3 r5) (hr : ∀ v, P v → t = (some (.int (p1 v)), ly0, (p1 (p2 v)), (p2 (p2 v)), R0)) (kk : P (F_X8_read_73 I L a1 a2 a3 a4 r5 a6 s0)) : V (zM x_X8_read 4 0 0 t) 73 [(0, .ref 0), (1, .int a1), (2, .int a2), (3, .int a3), (4, .int a4), (5, .ref r5), (6, .int a6)] [.int s0] ly0 I L R0 0 0 :=
  V_istore (lv' := [(7, .int s0), (0, .ref 0), (1, .int a1), (2, .int a2), (3, .int a3), (4, .int a4), (5, .ref r5), (6, .int a6)]) (tat ok_X8_read_0 (i := 34) (q := 75) rfl rfl) (Nat.le_of_ble_eq_true rfl) rfl <|
    V_iconst (tat ok_X8_read_0 (i := 35) (q := 76) rfl rfl) ic_0 <|
    V_istore (lv' := [(8, .int 0), (7, .int s0), (0, .ref 0), (1, .int a1), (2, .int a2), (3, .int a3), (4, .int a4), (5, .ref r5), (6, .int a6)]) (tat ok_X8_read_0 (i := 36) (q := 78) rfl rfl) (Nat.le_of_ble_eq_true rfl) rfl <|
    V_pick [2, 3, 4, 5, 6, 7, 8, 1, 0] rfl (V_X8_read_78 hr5 rfl hr (jx (P := P) kk rfl))
def F_X8_read_51 (I : WI) (L : WL) (a1 : Int32) (a2 : Int32) (a3 : Int32) (a4 : Int32) (r5 : Nat) (s0 : Int32) : (Int32 × WI × WL) :=
  (if s0 = 0 then (F_X8_read_73 I L a1 a2 a3 a4 r5 s0 (if (F_X3_pairsFrom I r5 a3) < a4 then (F_X3_pairsFrom I r5 a3) else a4)) else (F_X8_read_73 I L a1 a2 a3 a4 r5 s0 0))
theorem V_X8_read_51  {I : WI} {L : WL} {a1 : Int32} {a2 : Int32} {a3 : Int32} {a4 : Int32} {r5 : Nat} {s0 : Int32} {P : (Int32 × WI × WL) → Prop} {t : Tg} (hr5 : isX3 r5) (hr : ∀ v, P v → t = (some (.int (p1 v)), ly0, (p1 (p2 v)), (p2 (p2 v)), R0)) (kk : P (F_X8_read_51 I L a1 a2 a3 a4 r5 s0)) : V (zM x_X8_read 4 0 0 t) 51 [(0, .ref 0), (1, .int a1), (2, .int a2), (3, .int a3), (4, .int a4), (5, .ref r5)] [.int s0] ly0 I L R0 0 0 :=
  V_istore (lv' := [(6, .int s0), (0, .ref 0), (1, .int a1), (2, .int a2), (3, .int a3), (4, .int a4), (5, .ref r5)]) (tat ok_X8_read_0 (i := 24) (q := 53) rfl rfl) (Nat.le_of_ble_eq_true rfl) rfl <|
    V_iload (tat ok_X8_read_0 (i := 25) (q := 55) rfl rfl) 0 rfl <|
    V_if_ne (tat ok_X8_read_0 (i := 26) (q := 58) rfl rfl) rfl (fun c6 => V_iconst (tat ok_X8_read_0 (i := 33) (q := 73) rfl rfl) ic_0 <|
    V_pick [1, 2, 3, 4, 5, 6, 0] rfl (V_X8_read_73 hr5 hr (jx (P := P) kk (if_neg c6)))) (fun c6 => V_iload (tat ok_X8_read_0 (i := 27) (q := 60) rfl rfl) 5 rfl <|
    V_aload (tat ok_X8_read_0 (i := 28) (q := 62) rfl rfl) 6 rfl <|
    V_iload_n (tat ok_X8_read_0 (i := 29) (q := 63) rfl rfl) 4 rfl rfl <|
    V_cv1 (ct_X3_pairsFrom I L r5 a3 hr5) mo_X3_pairsFrom (tat ok_X8_read_0 (i := 30) (q := 66) rfl rfl) ml_X8_310 hr5.1 ⟨by decide, _, rfl, rfl⟩ ⟨(Nat.le_of_ble_eq_true rfl), (Nat.le_of_ble_eq_true rfl)⟩ ⟨(Nat.le_of_ble_eq_true rfl), (Nat.le_of_ble_eq_true rfl)⟩ (Nat.le_of_ble_eq_true rfl) <|
    V_min (tat ok_X8_read_0 (i := 31) (q := 69) rfl rfl) mm_li_X8_313 mm_min_st mm_min_co mm_ini ⟨(Nat.le_of_ble_eq_true rfl), (Nat.le_of_ble_eq_true rfl)⟩ ⟨(Nat.le_of_ble_eq_true rfl), (Nat.le_of_ble_eq_true rfl)⟩ <|
    V_goto (tat ok_X8_read_0 (i := 32) (q := 72) rfl rfl) rfl <|
    V_pick [1, 2, 3, 4, 5, 6, 0] rfl (V_X8_read_73 hr5 hr (jx (P := P) kk (if_pos c6))))
def F_X8_read (I : WI) (L : WL) (a1 : Int32) (a2 : Int32) (a3 : Int32) (a4 : Int32) : (Int32 × WI × WL) :=
  (if ¬ (a1 < 0 ∨ 4 ≤ Int32.toNatClampNeg a1) then (if (F_X8_isLane a2) = 0 then (F_X8_read_34 I L a1 a2 a3 a4) else (if a4 < 0 then (F_X8_read_34 I L a1 a2 a3 a4) else (if a4 ≤ 20 then (if a4 = 0 then (F_X8_read_51 I L a1 a2 a3 a4 (sid a1) 0) else (F_X8_read_51 I L a1 a2 a3 a4 (sid a1) (F_X3_faultOfLane I (sid a1) a2))) else (F_X8_read_34 I L a1 a2 a3 a4)))) else (F_X8_read_34 I L a1 a2 a3 a4))
theorem V_X8_read  {I : WI} {L : WL} {a1 : Int32} {a2 : Int32} {a3 : Int32} {a4 : Int32}  {P : (Int32 × WI × WL) → Prop} {t : Tg} (hr : ∀ v, P v → t = (some (.int (p1 v)), ly0, (p1 (p2 v)), (p2 (p2 v)), R0)) (kk : P (F_X8_read I L a1 a2 a3 a4)) : V (zM x_X8_read 4 0 0 t) 0 [(0, .ref 0), (1, .int a1), (2, .int a2), (3, .int a3), (4, .int a4)] [] ly0 I L R0 0 0 :=
  V_aload_n (tat ok_X8_read_0 (i := 0) (q := 1) rfl rfl) 0 rfl rfl <|
    V_getR (tat ok_X8_read_0 (i := 1) (q := 4) rfl rfl) fk_X8_56 rfl rfl <|
    V_iload_n (tat ok_X8_read_0 (i := 2) (q := 5) rfl rfl) 1 rfl rfl <|
    (if c1 : ¬ (a1 < 0 ∨ 4 ≤ Int32.toNatClampNeg a1) then V_cv1 (ct_at1 I L a1 c1) mo_X4_at (tat ok_X8_read_0 (i := 3) (q := 8) rfl rfl) ml_X8_286 rfl ⟨by decide, _, rfl, rfl⟩ ⟨(Nat.le_of_ble_eq_true rfl), (Nat.le_of_ble_eq_true rfl)⟩ ⟨(Nat.le_of_ble_eq_true rfl), (Nat.le_of_ble_eq_true rfl)⟩ (Nat.le_of_ble_eq_true rfl) <|
    V_astore (lv' := [(5, .ref (sid a1)), (0, .ref 0), (1, .int a1), (2, .int a2), (3, .int a3), (4, .int a4)]) (tat ok_X8_read_0 (i := 4) (q := 10) rfl rfl) (isX3_lt (isX3_sid c1)) (Nat.le_of_ble_eq_true rfl) rfl <|
    V_aload (tat ok_X8_read_0 (i := 5) (q := 12) rfl rfl) 0 rfl <|
    V_ifnull (tat ok_X8_read_0 (i := 6) (q := 15) rfl rfl) (isX3_lt (isX3_sid c1)) <|
    V_iload_n (tat ok_X8_read_0 (i := 7) (q := 16) rfl rfl) 3 rfl rfl <|
    V_cs1 (ct_X8_isLane I L a2 ) mo_X8_isLane (tat ok_X8_read_0 (i := 8) (q := 19) rfl rfl) ml_X8_290 ⟨(Nat.le_of_ble_eq_true rfl), (Nat.le_of_ble_eq_true rfl)⟩ ⟨(Nat.le_of_ble_eq_true rfl), (Nat.le_of_ble_eq_true rfl)⟩ (Nat.le_of_ble_eq_true rfl) <|
    V_if_eq (tat ok_X8_read_0 (i := 9) (q := 22) rfl rfl) rfl (fun c2 => V_pick [1, 2, 3, 4, 5] rfl (V_X8_read_34  hr (jx (P := P) kk (Eq.trans (if_pos c1) (if_pos c2))))) (fun c2 => V_iload (tat ok_X8_read_0 (i := 10) (q := 24) rfl rfl) 5 rfl <|
    V_if_lt (tat ok_X8_read_0 (i := 11) (q := 27) rfl rfl) rfl (fun c3 => V_pick [1, 2, 3, 4, 5] rfl (V_X8_read_34  hr (jx (P := P) kk (Eq.trans (if_pos c1) (Eq.trans (if_neg c2) (if_pos c3)))))) (fun c3 => V_iload (tat ok_X8_read_0 (i := 12) (q := 29) rfl rfl) 5 rfl <|
    V_bipush (tat ok_X8_read_0 (i := 13) (q := 31) rfl rfl) bp_20 <|
    V_icmp_le (tat ok_X8_read_0 (i := 14) (q := 34) rfl rfl) rfl (fun c4 => V_iload (tat ok_X8_read_0 (i := 17) (q := 38) rfl rfl) 5 rfl <|
    V_if_ne (tat ok_X8_read_0 (i := 18) (q := 41) rfl rfl) rfl (fun c5 => V_aload (tat ok_X8_read_0 (i := 21) (q := 47) rfl rfl) 0 rfl <|
    V_iload_n (tat ok_X8_read_0 (i := 22) (q := 48) rfl rfl) 3 rfl rfl <|
    V_cv1 (ct_X3_faultOfLane I L (sid a1) a2 (isX3_sid c1)) mo_X3_faultOfLane (tat ok_X8_read_0 (i := 23) (q := 51) rfl rfl) ml_X8_307 (isX3_sid c1).1 ⟨by decide, _, rfl, rfl⟩ ⟨(Nat.le_of_ble_eq_true rfl), (Nat.le_of_ble_eq_true rfl)⟩ ⟨(Nat.le_of_ble_eq_true rfl), (Nat.le_of_ble_eq_true rfl)⟩ (Nat.le_of_ble_eq_true rfl) <|
    V_pick [1, 2, 3, 4, 5, 0] rfl (V_X8_read_51 (isX3_sid c1) hr (jx (P := P) kk (Eq.trans (if_pos c1) (Eq.trans (if_neg c2) (Eq.trans (if_neg c3) (Eq.trans (if_pos c4) (if_neg c5)))))))) (fun c5 => V_iconst (tat ok_X8_read_0 (i := 19) (q := 42) rfl rfl) ic_0 <|
    V_goto (tat ok_X8_read_0 (i := 20) (q := 45) rfl rfl) rfl <|
    V_pick [1, 2, 3, 4, 5, 0] rfl (V_X8_read_51 (isX3_sid c1) hr (jx (P := P) kk (Eq.trans (if_pos c1) (Eq.trans (if_neg c2) (Eq.trans (if_neg c3) (Eq.trans (if_pos c4) (if_pos c5))))))))) (fun c4 => V_pick [1, 2, 3, 4, 5] rfl (V_X8_read_34  hr (jx (P := P) kk (Eq.trans (if_pos c1) (Eq.trans (if_neg c2) (Eq.trans (if_neg c3) (if_neg c4))))))))) else V_cv1 (ct_atN I L a1 c1) mo_X4_at (tat ok_X8_read_0 (i := 3) (q := 8) rfl rfl) ml_X8_286 rfl ⟨by decide, _, rfl, rfl⟩ ⟨(Nat.le_of_ble_eq_true rfl), (Nat.le_of_ble_eq_true rfl)⟩ ⟨(Nat.le_of_ble_eq_true rfl), (Nat.le_of_ble_eq_true rfl)⟩ (Nat.le_of_ble_eq_true rfl) <|
    V_astoreN (lv' := [(5, .null), (0, .ref 0), (1, .int a1), (2, .int a2), (3, .int a3), (4, .int a4)]) (tat ok_X8_read_0 (i := 4) (q := 10) rfl rfl) (Nat.le_of_ble_eq_true rfl) rfl <|
    V_aloadN (tat ok_X8_read_0 (i := 5) (q := 12) rfl rfl) 0 rfl <|
    V_ifnullN (tat ok_X8_read_0 (i := 6) (q := 15) rfl rfl) rfl <|
    V_pick [1, 2, 3, 4, 5] rfl (V_X8_read_34  hr (jx (P := P) kk (if_neg c1))))
theorem ct_X8_read  (I : WI) (L : WL) (a1 : Int32) (a2 : Int32) (a3 : Int32) (a4 : Int32)  : Ct x_X8_read 4 [.ref 0, .int a1, .int a2, .int a3, .int a4] ly0 I L R0 0 0 (some (.int (p1 (F_X8_read I L a1 a2 a3 a4))), ly0, (p1 (p2 (F_X8_read I L a1 a2 a3 a4))), (p2 (p2 (F_X8_read I L a1 a2 a3 a4))), R0) :=
  Ct_of_V mo_X8_read.1 (Nat.le_of_ble_eq_true rfl) (V_X8_read (P := fun x => x = (F_X8_read I L a1 a2 a3 a4))  (fun _ e => by rw [e]) rfl)
def F_X8_torn (I : WI) : Int32 :=
  (I 0 14)
theorem V_X8_torn  {I : WI} {L : WL}   {P : Int32 → Prop} {t : Tg} (hr : ∀ v, P v → t = (some (.int v), ly0, I, L, R0)) (kk : P (F_X8_torn I)) : V (zM x_X8_torn 1 0 0 t) 0 [(0, .ref 0)] [] ly0 I L R0 0 0 :=
  V_aload_n (tat ok_X8_torn_0 (i := 0) (q := 1) rfl rfl) 0 rfl rfl <|
    V_getI (tat ok_X8_torn_0 (i := 1) (q := 4) rfl rfl) fk_X8_319 rfl <|
    V_iret (tat ok_X8_torn_0 (i := 2) (q := 5) rfl rfl) _ rfl (nar_int _) (hr (I 0 14) (jx (P := P) kk rfl)) ⟨(Nat.le_of_ble_eq_true rfl), (Nat.le_of_ble_eq_true rfl)⟩
theorem ct_X8_torn  (I : WI) (L : WL)  : Ct x_X8_torn 1 [.ref 0] ly0 I L R0 0 0 (some (.int (F_X8_torn I)), ly0, I, L, R0) :=
  Ct_of_V mo_X8_torn.1 (Nat.le_of_ble_eq_true rfl) (V_X8_torn (P := fun x => x = (F_X8_torn I))  (fun _ e => by rw [e]) rfl)
def F_X8_count_97 (I : WI) (L : WL) (a1 : Int32) (s0 : Int32) : Int32 :=
  s0
theorem V_X8_count_97  {I : WI} {L : WL} {a1 : Int32} {s0 : Int32} {P : Int32 → Prop} {t : Tg} (hr : ∀ v, P v → t = (some (.int v), ly0, I, L, R0)) (kk : P (F_X8_count_97 I L a1 s0)) : V (zM x_X8_count 3 0 0 t) 97 [(0, .ref 0), (1, .int a1)] [.int s0] ly0 I L R0 0 0 :=
  V_iret (tat ok_X8_count_0 (i := 28) (q := 98) rfl rfl) _ rfl (nar_int _) (hr s0 (jx (P := P) kk rfl)) ⟨(Nat.le_of_ble_eq_true rfl), (Nat.le_of_ble_eq_true rfl)⟩
def F_X8_count_128 (I : WI) (L : WL) (a1 : Int32) (s0 : Int32) (s1 : Int32) : Int32 :=
  (s1 + s0)
theorem V_X8_count_128  {I : WI} {L : WL} {a1 : Int32} {s0 : Int32} {s1 : Int32} {P : Int32 → Prop} {t : Tg} (hs0 : bz s0 = s0) (hs1 : bz s1 = s1) (hr : ∀ v, P v → t = (some (.int v), ly0, I, L, R0)) (kk : P (F_X8_count_128 I L a1 s0 s1)) : V (zM x_X8_count 3 0 0 t) 128 [(0, .ref 0), (1, .int a1)] [.int s0, .int s1] ly0 I L R0 0 0 :=
  V_iadd (tat ok_X8_count_1 (i := 3) (q := 129) rfl rfl) <|
    V_iret (tat ok_X8_count_1 (i := 4) (q := 130) rfl rfl) _ rfl (nar_int _) (hr (s1 + s0) (jx (P := P) kk rfl)) ⟨(Nat.le_of_ble_eq_true rfl), (Nat.le_of_ble_eq_true rfl)⟩
def F_X8_count_113 (I : WI) (L : WL) (a1 : Int32) (s0 : Int32) : Int32 :=
  (if (bz (I 4 0)) = 0 then (F_X8_count_128 I L a1 0 s0) else (F_X8_count_128 I L a1 1 s0))
theorem V_X8_count_113  {I : WI} {L : WL} {a1 : Int32} {s0 : Int32} {P : Int32 → Prop} {t : Tg} (hs0 : bz s0 = s0) (hr : ∀ v, P v → t = (some (.int v), ly0, I, L, R0)) (kk : P (F_X8_count_113 I L a1 s0)) : V (zM x_X8_count 3 0 0 t) 113 [(0, .ref 0), (1, .int a1)] [.int s0] ly0 I L R0 0 0 :=
  V_aload_n (tat ok_X8_count_0 (i := 36) (q := 114) rfl rfl) 0 rfl rfl <|
    V_getR (tat ok_X8_count_0 (i := 37) (q := 117) rfl rfl) fk_X8_24 rfl rfl <|
    V_getZ (tat ok_X8_count_0 (i := 38) (q := 120) rfl rfl) fk_X8_106 rfl <|
    V_if_eq (tat ok_X8_count_0 (i := 39) (q := 123) rfl rfl) rfl (fun c9 => V_iconst (tat ok_X8_count_1 (i := 2) (q := 128) rfl rfl) ic_0 <|
    V_X8_count_128 rfl hs0 hr (jx (P := P) kk (if_pos c9))) (fun c9 => V_iconst (tat ok_X8_count_1 (i := 0) (q := 124) rfl rfl) ic_1 <|
    V_goto (tat ok_X8_count_1 (i := 1) (q := 127) rfl rfl) rfl <|
    V_X8_count_128 rfl hs0 hr (jx (P := P) kk (if_neg c9)))
def F_X8_count (I : WI) (L : WL) (a1 : Int32) : Int32 :=
  (if a1 = 0 then (F_X0_darkSquares L 1) else (if a1 = 1 then ((I 1 1) * (I 1 2)) else (if a1 = 2 then (if (bz (I 2 0)) = 0 then (F_X8_count_97 I L a1 (-4)) else (F_X8_count_97 I L a1 (F_J13_bitCount_95d88 ((L 1 3) ^^^ (L 2 3))))) else (if a1 = 3 then (if (bz (I 3 0)) = 0 then (F_X8_count_113 I L a1 0) else (F_X8_count_113 I L a1 1)) else (if a1 = 4 then (I 9 0) else (if a1 = 5 then (F_X4_cellsOf I 0) else (-1)))))))
theorem V_X8_count  {I : WI} {L : WL} {a1 : Int32}  {P : Int32 → Prop} {t : Tg} (hr : ∀ v, P v → t = (some (.int v), ly0, I, L, R0)) (kk : P (F_X8_count I L a1)) : V (zM x_X8_count 3 0 0 t) 0 [(0, .ref 0), (1, .int a1)] [] ly0 I L R0 0 0 :=
  V_iload_n (tat ok_X8_count_0 (i := 0) (q := 1) rfl rfl) 1 rfl rfl <|
    (if c1 : a1 = 0 then V_tswJ (tgt := 40) (off := 39) 0 (tat ok_X8_count_0 (i := 1) (q := 40) rfl rfl) (swj c1) ⟨rfl, by decide⟩ rfl (V_aload_n (tat ok_X8_count_0 (i := 2) (q := 41) rfl rfl) 0 rfl rfl <|
    V_getR (tat ok_X8_count_0 (i := 3) (q := 44) rfl rfl) fk_X8_14 rfl rfl <|
    V_cv0 (ct_X0_darkSquares I L 1 rfl) mo_X0_darkSquares (tat ok_X8_count_0 (i := 4) (q := 47) rfl rfl) ml_X8_159 rfl ⟨by decide, _, rfl, rfl⟩ ⟨(Nat.le_of_ble_eq_true rfl), (Nat.le_of_ble_eq_true rfl)⟩ ⟨(Nat.le_of_ble_eq_true rfl), (Nat.le_of_ble_eq_true rfl)⟩ (Nat.le_of_ble_eq_true rfl) <|
    V_iret (tat ok_X8_count_0 (i := 5) (q := 48) rfl rfl) _ rfl (nar_int _) (hr (F_X0_darkSquares L 1) (jx (P := P) kk (if_pos c1))) ⟨(Nat.le_of_ble_eq_true rfl), (Nat.le_of_ble_eq_true rfl)⟩) else (if c2 : a1 = 1 then V_tswJ (tgt := 48) (off := 47) 1 (tat ok_X8_count_0 (i := 1) (q := 40) rfl rfl) (swj c2) ⟨rfl, by decide⟩ rfl (V_aload_n (tat ok_X8_count_0 (i := 6) (q := 49) rfl rfl) 0 rfl rfl <|
    V_getR (tat ok_X8_count_0 (i := 7) (q := 52) rfl rfl) fk_X8_14 rfl rfl <|
    V_getI (tat ok_X8_count_0 (i := 8) (q := 55) rfl rfl) fk_X8_117 rfl <|
    V_aload_n (tat ok_X8_count_0 (i := 9) (q := 56) rfl rfl) 0 rfl rfl <|
    V_getR (tat ok_X8_count_0 (i := 10) (q := 59) rfl rfl) fk_X8_14 rfl rfl <|
    V_getI (tat ok_X8_count_0 (i := 11) (q := 62) rfl rfl) fk_X8_120 rfl <|
    V_imul (tat ok_X8_count_0 (i := 12) (q := 63) rfl rfl) <|
    V_iret (tat ok_X8_count_0 (i := 13) (q := 64) rfl rfl) _ rfl (nar_int _) (hr ((I 1 1) * (I 1 2)) (jx (P := P) kk (Eq.trans (if_neg c1) (if_pos c2)))) ⟨(Nat.le_of_ble_eq_true rfl), (Nat.le_of_ble_eq_true rfl)⟩) else (if c3 : a1 = 2 then V_tswJ (tgt := 64) (off := 63) 2 (tat ok_X8_count_0 (i := 1) (q := 40) rfl rfl) (swj c3) ⟨rfl, by decide⟩ rfl (V_aload_n (tat ok_X8_count_0 (i := 14) (q := 65) rfl rfl) 0 rfl rfl <|
    V_getR (tat ok_X8_count_0 (i := 15) (q := 68) rfl rfl) fk_X8_18 rfl rfl <|
    V_getZ (tat ok_X8_count_0 (i := 16) (q := 71) rfl rfl) fk_X8_106 rfl <|
    V_if_eq (tat ok_X8_count_0 (i := 17) (q := 74) rfl rfl) rfl (fun c7 => V_bipush (tat ok_X8_count_0 (i := 27) (q := 97) rfl rfl) bp_m4 <|
    V_X8_count_97  hr (jx (P := P) kk (Eq.trans (if_neg c1) (Eq.trans (if_neg c2) (Eq.trans (if_pos c3) (if_pos c7)))))) (fun c7 => V_aload_n (tat ok_X8_count_0 (i := 18) (q := 75) rfl rfl) 0 rfl rfl <|
    V_getR (tat ok_X8_count_0 (i := 19) (q := 78) rfl rfl) fk_X8_14 rfl rfl <|
    V_getL (tat ok_X8_count_0 (i := 20) (q := 81) rfl rfl) fk_X8_137 rfl <|
    V_aload_n (tat ok_X8_count_0 (i := 21) (q := 82) rfl rfl) 0 rfl rfl <|
    V_getR (tat ok_X8_count_0 (i := 22) (q := 85) rfl rfl) fk_X8_18 rfl rfl <|
    V_getL (tat ok_X8_count_0 (i := 23) (q := 88) rfl rfl) fk_X8_137 rfl <|
    V_lxor (tat ok_X8_count_0 (i := 24) (q := 89) rfl rfl) <|
    V_cs1 (ct_J13_bitCount_95d88 I L ((L 1 3) ^^^ (L 2 3)) ) mo_J13_bitCount_95d88 (tat ok_X8_count_0 (i := 25) (q := 92) rfl rfl) ml_X8_322 ⟨(Nat.le_of_ble_eq_true rfl), (Nat.le_of_ble_eq_true rfl)⟩ ⟨(Nat.le_of_ble_eq_true rfl), (Nat.le_of_ble_eq_true rfl)⟩ (Nat.le_of_ble_eq_true rfl) <|
    V_goto (tat ok_X8_count_0 (i := 26) (q := 95) rfl rfl) rfl <|
    V_X8_count_97  hr (jx (P := P) kk (Eq.trans (if_neg c1) (Eq.trans (if_neg c2) (Eq.trans (if_pos c3) (if_neg c7))))))) else (if c4 : a1 = 3 then V_tswJ (tgt := 98) (off := 97) 3 (tat ok_X8_count_0 (i := 1) (q := 40) rfl rfl) (swj c4) ⟨rfl, by decide⟩ rfl (V_aload_n (tat ok_X8_count_0 (i := 29) (q := 99) rfl rfl) 0 rfl rfl <|
    V_getR (tat ok_X8_count_0 (i := 30) (q := 102) rfl rfl) fk_X8_21 rfl rfl <|
    V_getZ (tat ok_X8_count_0 (i := 31) (q := 105) rfl rfl) fk_X8_106 rfl <|
    V_if_eq (tat ok_X8_count_0 (i := 32) (q := 108) rfl rfl) rfl (fun c8 => V_iconst (tat ok_X8_count_0 (i := 35) (q := 113) rfl rfl) ic_0 <|
    V_X8_count_113 rfl hr (jx (P := P) kk (Eq.trans (if_neg c1) (Eq.trans (if_neg c2) (Eq.trans (if_neg c3) (Eq.trans (if_pos c4) (if_pos c8))))))) (fun c8 => V_iconst (tat ok_X8_count_0 (i := 33) (q := 109) rfl rfl) ic_1 <|
    V_goto (tat ok_X8_count_0 (i := 34) (q := 112) rfl rfl) rfl <|
    V_X8_count_113 rfl hr (jx (P := P) kk (Eq.trans (if_neg c1) (Eq.trans (if_neg c2) (Eq.trans (if_neg c3) (Eq.trans (if_pos c4) (if_neg c8)))))))) else (if c5 : a1 = 4 then V_tswJ (tgt := 130) (off := 129) 4 (tat ok_X8_count_0 (i := 1) (q := 40) rfl rfl) (swj c5) ⟨rfl, by decide⟩ rfl (V_aload_n (tat ok_X8_count_1 (i := 5) (q := 131) rfl rfl) 0 rfl rfl <|
    V_getR (tat ok_X8_count_1 (i := 6) (q := 134) rfl rfl) fk_X8_40 rfl rfl <|
    V_getI (tat ok_X8_count_1 (i := 7) (q := 137) rfl rfl) fk_X8_85 rfl <|
    V_iret (tat ok_X8_count_1 (i := 8) (q := 138) rfl rfl) _ rfl (nar_int _) (hr (I 9 0) (jx (P := P) kk (Eq.trans (if_neg c1) (Eq.trans (if_neg c2) (Eq.trans (if_neg c3) (Eq.trans (if_neg c4) (if_pos c5))))))) ⟨(Nat.le_of_ble_eq_true rfl), (Nat.le_of_ble_eq_true rfl)⟩) else (if c6 : a1 = 5 then V_tswJ (tgt := 138) (off := 137) 5 (tat ok_X8_count_0 (i := 1) (q := 40) rfl rfl) (swj c6) ⟨rfl, by decide⟩ rfl (V_aload_n (tat ok_X8_count_1 (i := 9) (q := 139) rfl rfl) 0 rfl rfl <|
    V_getR (tat ok_X8_count_1 (i := 10) (q := 142) rfl rfl) fk_X8_56 rfl rfl <|
    V_iconst (tat ok_X8_count_1 (i := 11) (q := 143) rfl rfl) ic_0 <|
    V_cv1 (ct_X4_cellsOf I L 0 ) mo_X4_cellsOf (tat ok_X8_count_1 (i := 12) (q := 146) rfl rfl) ml_X8_327 rfl ⟨by decide, _, rfl, rfl⟩ ⟨(Nat.le_of_ble_eq_true rfl), (Nat.le_of_ble_eq_true rfl)⟩ ⟨(Nat.le_of_ble_eq_true rfl), (Nat.le_of_ble_eq_true rfl)⟩ (Nat.le_of_ble_eq_true rfl) <|
    V_iret (tat ok_X8_count_1 (i := 13) (q := 147) rfl rfl) _ rfl (nar_int _) (hr (F_X4_cellsOf I 0) (jx (P := P) kk (Eq.trans (if_neg c1) (Eq.trans (if_neg c2) (Eq.trans (if_neg c3) (Eq.trans (if_neg c4) (Eq.trans (if_neg c5) (if_pos c6)))))))) ⟨(Nat.le_of_ble_eq_true rfl), (Nat.le_of_ble_eq_true rfl)⟩) else V_tswD (tgt := 147) (tat ok_X8_count_0 (i := 1) (q := 40) rfl rfl) (sw6 c1 c2 c3 c4 c5 c6) rfl (V_iconst (tat ok_X8_count_1 (i := 14) (q := 148) rfl rfl) ic_m1 <|
    V_iret (tat ok_X8_count_1 (i := 15) (q := 149) rfl rfl) _ rfl (nar_int _) (hr (-1) (jx (P := P) kk (Eq.trans (if_neg c1) (Eq.trans (if_neg c2) (Eq.trans (if_neg c3) (Eq.trans (if_neg c4) (Eq.trans (if_neg c5) (if_neg c6)))))))) ⟨(Nat.le_of_ble_eq_true rfl), (Nat.le_of_ble_eq_true rfl)⟩)))))))
theorem ct_X8_count  (I : WI) (L : WL) (a1 : Int32)  : Ct x_X8_count 3 [.ref 0, .int a1] ly0 I L R0 0 0 (some (.int (F_X8_count I L a1)), ly0, I, L, R0) :=
  Ct_of_V mo_X8_count.1 (Nat.le_of_ble_eq_true rfl) (V_X8_count (P := fun x => x = (F_X8_count I L a1))  (fun _ e => by rw [e]) rfl)
