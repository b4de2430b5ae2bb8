theorem ct_X8_turned  (I : WI) (L : WL) (a1 : Int32) (a2 : Int32)  : Ct x_X8_turned 7 [.ref 0, .int a1, .int a2] ly0 I L R0 0 0 (some (.int (p1 (F_X8_turned I L a1 a2))), ly0, (p2 (F_X8_turned I L a1 a2)), L, R0) :=
  Ct_of_V mo_X8_turned.1 (Nat.le_of_ble_eq_true rfl) (V_X8_turned (P := fun x => x = (F_X8_turned I L a1 a2))  (fun _ e => by rw [e]) rfl)
def F_X8_spoiltTold_34 (I : WI) (a1 : Int32) (s0 : Int32) : Int32 :=
  s0
theorem V_X8_spoiltTold_34  {I : WI} {L : WL} {a1 : Int32} {s0 : Int32} {P : Int32 → Prop} {t : Tg} (hr : ∀ v, P v → t = (some (.int v), ly0, I, L, R0)) (kk : P (F_X8_spoiltTold_34 I a1 s0)) : V (zM x_X8_spoiltTold 1 0 0 t) 34 [(0, .ref 0), (1, .int a1)] [.int s0] ly0 I L R0 0 0 :=
  V_iret (tat ok_X8_spoiltTold_0 (i := 15) (q := 35) rfl rfl) _ rfl (nar_int _) (hr s0 (jx (P := P) kk rfl)) ⟨(Nat.le_of_ble_eq_true rfl), (Nat.le_of_ble_eq_true rfl)⟩
def F_X8_spoiltTold (I : WI) (a1 : Int32) : Int32 :=
  (if a1 = 0 then (I 27 6) else (if (I 27 6) = 0 then (F_X8_spoiltTold_34 I a1 (-4)) else (F_X8_spoiltTold_34 I a1 (I 27 7))))
theorem V_X8_spoiltTold  {I : WI} {L : WL} {a1 : Int32}  {P : Int32 → Prop} {t : Tg} (hr : ∀ v, P v → t = (some (.int v), ly0, I, L, R0)) (kk : P (F_X8_spoiltTold I a1)) : V (zM x_X8_spoiltTold 1 0 0 t) 0 [(0, .ref 0), (1, .int a1)] [] ly0 I L R0 0 0 :=
  V_iload_n (tat ok_X8_spoiltTold_0 (i := 0) (q := 1) rfl rfl) 1 rfl rfl <|
    V_if_ne (tat ok_X8_spoiltTold_0 (i := 1) (q := 4) rfl rfl) rfl (fun c1 => V_aload_n (tat ok_X8_spoiltTold_0 (i := 6) (q := 13) rfl rfl) 0 rfl rfl <|
    V_getR (tat ok_X8_spoiltTold_0 (i := 7) (q := 16) rfl rfl) fk_X8_63 rfl rfl <|
    V_getI (tat ok_X8_spoiltTold_0 (i := 8) (q := 19) rfl rfl) fk_X8_333 rfl <|
    V_if_ne (tat ok_X8_spoiltTold_0 (i := 9) (q := 22) rfl rfl) rfl (fun c2 => V_aload_n (tat ok_X8_spoiltTold_0 (i := 12) (q := 28) rfl rfl) 0 rfl rfl <|
    V_getR (tat ok_X8_spoiltTold_0 (i := 13) (q := 31) rfl rfl) fk_X8_63 rfl rfl <|
    V_getI (tat ok_X8_spoiltTold_0 (i := 14) (q := 34) rfl rfl) fk_X8_334 rfl <|
    V_X8_spoiltTold_34  hr (jx (P := P) kk (Eq.trans (if_neg c1) (if_neg c2)))) (fun c2 => V_bipush (tat ok_X8_spoiltTold_0 (i := 10) (q := 24) rfl rfl) bp_m4 <|
    V_goto (tat ok_X8_spoiltTold_0 (i := 11) (q := 27) rfl rfl) rfl <|
    V_X8_spoiltTold_34  hr (jx (P := P) kk (Eq.trans (if_neg c1) (if_pos c2))))) (fun c1 => V_aload_n (tat ok_X8_spoiltTold_0 (i := 2) (q := 5) rfl rfl) 0 rfl rfl <|
    V_getR (tat ok_X8_spoiltTold_0 (i := 3) (q := 8) rfl rfl) fk_X8_63 rfl rfl <|
    V_getI (tat ok_X8_spoiltTold_0 (i := 4) (q := 11) rfl rfl) fk_X8_333 rfl <|
    V_iret (tat ok_X8_spoiltTold_0 (i := 5) (q := 12) rfl rfl) _ rfl (nar_int _) (hr (I 27 6) (jx (P := P) kk (if_pos c1))) ⟨(Nat.le_of_ble_eq_true rfl), (Nat.le_of_ble_eq_true rfl)⟩)
theorem ct_X8_spoiltTold  (I : WI) (L : WL) (a1 : Int32)  : Ct x_X8_spoiltTold 1 [.ref 0, .int a1] ly0 I L R0 0 0 (some (.int (F_X8_spoiltTold I a1)), ly0, I, L, R0) :=
  Ct_of_V mo_X8_spoiltTold.1 (Nat.le_of_ble_eq_true rfl) (V_X8_spoiltTold (P := fun x => x = (F_X8_spoiltTold I a1))  (fun _ e => by rw [e]) rfl)
def F_X8_spoilt_9 (I : WI) (L : WL) (a1 : Int32) : (Int32 × WI) :=
  ((-1), I)
theorem V_X8_spoilt_9  {I : WI} {L : WL} {a1 : Int32}  {P : (Int32 × WI) → Prop} {t : Tg} (hr : ∀ v, P v → t = (some (.int (p1 v)), ly0, (p2 v), L, R0)) (kk : P (F_X8_spoilt_9 I L a1)) : V (zM x_X8_spoilt 7 0 0 t) 9 [(0, .ref 0), (1, .int a1)] [] ly0 I L R0 0 0 :=
  V_iconst (tat ok_X8_spoilt_0 (i := 5) (q := 10) rfl rfl) ic_m1 <|
    V_iret (tat ok_X8_spoilt_0 (i := 6) (q := 11) rfl rfl) _ rfl (nar_int _) (hr ((-1), I) (jx (P := P) kk rfl)) ⟨(Nat.le_of_ble_eq_true rfl), (Nat.le_of_ble_eq_true rfl)⟩
def F_X8_spoilt (I : WI) (L : WL) (a1 : Int32) : (Int32 × WI) :=
  (if a1 < 0 then (F_X8_spoilt_9 I L a1) else (if a1 ≤ 1 then (if (bz (I 2 0)) = 0 then ((-2), I) else ((F_X8_spoiltTold (F_X7_findSpoilt I 1 ((L 1 3) ^^^ (L 2 3))) a1), (F_X7_findSpoilt I 1 ((L 1 3) ^^^ (L 2 3))))) else (F_X8_spoilt_9 I L a1)))
theorem V_X8_spoilt  {I : WI} {L : WL} {a1 : Int32}  {P : (Int32 × WI) → Prop} {t : Tg} (hr : ∀ v, P v → t = (some (.int (p1 v)), ly0, (p2 v), L, R0)) (kk : P (F_X8_spoilt I L a1)) : V (zM x_X8_spoilt 7 0 0 t) 0 [(0, .ref 0), (1, .int a1)] [] ly0 I L R0 0 0 :=
  V_iload_n (tat ok_X8_spoilt_0 (i := 0) (q := 1) rfl rfl) 1 rfl rfl <|
    V_if_lt (tat ok_X8_spoilt_0 (i := 1) (q := 4) rfl rfl) rfl (fun c1 => V_X8_spoilt_9  hr (jx (P := P) kk (if_pos c1))) (fun c1 => V_iload_n (tat ok_X8_spoilt_0 (i := 2) (q := 5) rfl rfl) 1 rfl rfl <|
    V_iconst (tat ok_X8_spoilt_0 (i := 3) (q := 6) rfl rfl) ic_1 <|
    V_icmp_le (tat ok_X8_spoilt_0 (i := 4) (q := 9) rfl rfl) rfl (fun c2 => V_aload_n (tat ok_X8_spoilt_0 (i := 7) (q := 12) rfl rfl) 0 rfl rfl <|
    V_getR (tat ok_X8_spoilt_0 (i := 8) (q := 15) rfl rfl) fk_X8_18 rfl rfl <|
    V_getZ (tat ok_X8_spoilt_0 (i := 9) (q := 18) rfl rfl) fk_X8_106 rfl <|
    V_if_ne (tat ok_X8_spoilt_0 (i := 10) (q := 21) rfl rfl) rfl (fun c3 => V_aload_n (tat ok_X8_spoilt_0 (i := 13) (q := 25) rfl rfl) 0 rfl rfl <|
    V_getR (tat ok_X8_spoilt_0 (i := 14) (q := 28) rfl rfl) fk_X8_63 rfl rfl <|
    V_aload_n (tat ok_X8_spoilt_0 (i := 15) (q := 29) rfl rfl) 0 rfl rfl <|
    V_getR (tat ok_X8_spoilt_0 (i := 16) (q := 32) rfl rfl) fk_X8_14 rfl rfl <|
    V_aload_n (tat ok_X8_spoilt_0 (i := 17) (q := 33) rfl rfl) 0 rfl rfl <|
    V_getR (tat ok_X8_spoilt_0 (i := 18) (q := 36) rfl rfl) fk_X8_14 rfl rfl <|
    V_getL (tat ok_X8_spoilt_0 (i := 19) (q := 39) rfl rfl) fk_X8_137 rfl <|
    V_aload_n (tat ok_X8_spoilt_0 (i := 20) (q := 40) rfl rfl) 0 rfl rfl <|
    V_getR (tat ok_X8_spoilt_0 (i := 21) (q := 43) rfl rfl) fk_X8_18 rfl rfl <|
    V_getL (tat ok_X8_spoilt_0 (i := 22) (q := 46) rfl rfl) fk_X8_137 rfl <|
    V_lxor (tat ok_X8_spoilt_0 (i := 23) (q := 47) rfl rfl) <|
    V_cv2v (ct_X7_findSpoilt I L 1 ((L 1 3) ^^^ (L 2 3)) rfl) mo_X7_findSpoilt (tat ok_X8_spoilt_0 (i := 24) (q := 50) rfl rfl) ml_X8_245 rfl ⟨by decide, _, rfl, rfl⟩ ⟨(Nat.le_of_ble_eq_true rfl), (Nat.le_of_ble_eq_true rfl)⟩ ⟨(Nat.le_of_ble_eq_true rfl), (Nat.le_of_ble_eq_true rfl)⟩ (Nat.le_of_ble_eq_true rfl) <|
    V_aload_n (tat ok_X8_spoilt_0 (i := 25) (q := 51) rfl rfl) 0 rfl rfl <|
    V_iload_n (tat ok_X8_spoilt_0 (i := 26) (q := 52) rfl rfl) 1 rfl rfl <|
    V_cv1 (ct_X8_spoiltTold (F_X7_findSpoilt I 1 ((L 1 3) ^^^ (L 2 3))) L a1 ) mo_X8_spoiltTold (tat ok_X8_spoilt_0 (i := 27) (q := 55) rfl rfl) ml_X8_248 rfl ⟨by decide, _, rfl, rfl⟩ ⟨(Nat.le_of_ble_eq_true rfl), (Nat.le_of_ble_eq_true rfl)⟩ ⟨(Nat.le_of_ble_eq_true rfl), (Nat.le_of_ble_eq_true rfl)⟩ (Nat.le_of_ble_eq_true rfl) <|
    V_iret (tat ok_X8_spoilt_0 (i := 28) (q := 56) rfl rfl) _ rfl (nar_int _) (hr ((F_X8_spoiltTold (F_X7_findSpoilt I 1 ((L 1 3) ^^^ (L 2 3))) a1), (F_X7_findSpoilt I 1 ((L 1 3) ^^^ (L 2 3)))) (jx (P := P) kk (Eq.trans (if_neg c1) (Eq.trans (if_pos c2) (if_neg c3))))) ⟨(Nat.le_of_ble_eq_true rfl), (Nat.le_of_ble_eq_true rfl)⟩) (fun c3 => V_bipush (tat ok_X8_spoilt_0 (i := 11) (q := 23) rfl rfl) bp_m2 <|
    V_iret (tat ok_X8_spoilt_0 (i := 12) (q := 24) rfl rfl) _ rfl (nar_int _) (hr ((-2), I) (jx (P := P) kk (Eq.trans (if_neg c1) (Eq.trans (if_pos c2) (if_pos c3))))) ⟨(Nat.le_of_ble_eq_true rfl), (Nat.le_of_ble_eq_true rfl)⟩)) (fun c2 => V_X8_spoilt_9  hr (jx (P := P) kk (Eq.trans (if_neg c1) (if_neg c2)))))
theorem ct_X8_spoilt  (I : WI) (L : WL) (a1 : Int32)  : Ct x_X8_spoilt 7 [.ref 0, .int a1] ly0 I L R0 0 0 (some (.int (p1 (F_X8_spoilt I L a1))), ly0, (p2 (F_X8_spoilt I L a1)), L, R0) :=
  Ct_of_V mo_X8_spoilt.1 (Nat.le_of_ble_eq_true rfl) (V_X8_spoilt (P := fun x => x = (F_X8_spoilt I L a1))  (fun _ e => by rw [e]) rfl)
def F_X8_both_9 (I : WI) (L : WL) (a1 : Int32) : Option (Int32 × WI × WL) :=
  some ((-1), I, L)
theorem V_X8_both_9  {I : WI} {L : WL} {a1 : Int32}  {P : (Int32 × WI × WL) → Prop} {t : Tg} (hr : ∀ v, P v → t = (some (.int (p1 v)), ly0, (p1 (p2 v)), (p2 (p2 v)), R0)) (kk : oP P (F_X8_both_9 I L a1)) : V (zM x_X8_both 7 0 0 t) 9 [(0, .ref 0), (1, .int a1)] [] ly0 I L R0 0 0 :=
  V_iconst (tat ok_X8_both_0 (i := 5) (q := 10) rfl rfl) ic_m1 <|
    V_iret (tat ok_X8_both_0 (i := 6) (q := 11) rfl rfl) _ rfl (nar_int _) (hr ((-1), I, L) (jx (P := oP P) kk rfl)) ⟨(Nat.le_of_ble_eq_true rfl), (Nat.le_of_ble_eq_true rfl)⟩
def F_X8_both (I : WI) (L : WL) (a1 : Int32) : Option (Int32 × WI × WL) :=
  (if a1 < 0 then (F_X8_both_9 I L a1) else (if a1 ≤ 1 then (if (bz (I 2 0)) = 0 then some ((-2), I, L) else (Option.bind (F_X7_findBothSpoilt I L 1 ((L 1 3) ^^^ (L 2 3))) (fun v4 => some ((F_X8_spoiltTold (p1 v4) a1), (p1 v4), (p2 v4))))) else (F_X8_both_9 I L a1)))
theorem V_X8_both  {I : WI} {L : WL} {a1 : Int32}  {P : (Int32 × WI × WL) → Prop} {t : Tg} (hr : ∀ v, P v → t = (some (.int (p1 v)), ly0, (p1 (p2 v)), (p2 (p2 v)), R0)) (kk : oP P (F_X8_both I L a1)) : V (zM x_X8_both 7 0 0 t) 0 [(0, .ref 0), (1, .int a1)] [] ly0 I L R0 0 0 :=
  V_iload_n (tat ok_X8_both_0 (i := 0) (q := 1) rfl rfl) 1 rfl rfl <|
    V_if_lt (tat ok_X8_both_0 (i := 1) (q := 4) rfl rfl) rfl (fun c1 => V_X8_both_9  hr (jx (P := oP P) kk (if_pos c1))) (fun c1 => V_iload_n (tat ok_X8_both_0 (i := 2) (q := 5) rfl rfl) 1 rfl rfl <|
    V_iconst (tat ok_X8_both_0 (i := 3) (q := 6) rfl rfl) ic_1 <|
    V_icmp_le (tat ok_X8_both_0 (i := 4) (q := 9) rfl rfl) rfl (fun c2 => V_aload_n (tat ok_X8_both_0 (i := 7) (q := 12) rfl rfl) 0 rfl rfl <|
    V_getR (tat ok_X8_both_0 (i := 8) (q := 15) rfl rfl) fk_X8_18 rfl rfl <|
    V_getZ (tat ok_X8_both_0 (i := 9) (q := 18) rfl rfl) fk_X8_106 rfl <|
    V_if_ne (tat ok_X8_both_0 (i := 10) (q := 21) rfl rfl) rfl (fun c3 => V_aload_n (tat ok_X8_both_0 (i := 13) (q := 25) rfl rfl) 0 rfl rfl <|
    V_getR (tat ok_X8_both_0 (i := 14) (q := 28) rfl rfl) fk_X8_63 rfl rfl <|
    V_aload_n (tat ok_X8_both_0 (i := 15) (q := 29) rfl rfl) 0 rfl rfl <|
    V_getR (tat ok_X8_both_0 (i := 16) (q := 32) rfl rfl) fk_X8_14 rfl rfl <|
    V_aload_n (tat ok_X8_both_0 (i := 17) (q := 33) rfl rfl) 0 rfl rfl <|
    V_getR (tat ok_X8_both_0 (i := 18) (q := 36) rfl rfl) fk_X8_14 rfl rfl <|
    V_getL (tat ok_X8_both_0 (i := 19) (q := 39) rfl rfl) fk_X8_137 rfl <|
    V_aload_n (tat ok_X8_both_0 (i := 20) (q := 40) rfl rfl) 0 rfl rfl <|
    V_getR (tat ok_X8_both_0 (i := 21) (q := 43) rfl rfl) fk_X8_18 rfl rfl <|
    V_getL (tat ok_X8_both_0 (i := 22) (q := 46) rfl rfl) fk_X8_137 rfl <|
    V_lxor (tat ok_X8_both_0 (i := 23) (q := 47) rfl rfl) <|
    oP_case (jx (P := oP P) kk (Eq.trans (if_neg c1) (Eq.trans (if_pos c2) (if_neg c3)))) (fun v4 e4 _ => V_cv2v (ct_X7_findBothSpoilt I L 1 ((L 1 3) ^^^ (L 2 3)) rfl e4) mo_X7_findBothSpoilt (tat ok_X8_both_0 (i := 24) (q := 50) rfl rfl) ml_X8_251 rfl ⟨by decide, _, rfl, rfl⟩ ⟨(Nat.le_of_ble_eq_true rfl), (Nat.le_of_ble_eq_true rfl)⟩ ⟨(Nat.le_of_ble_eq_true rfl), (Nat.le_of_ble_eq_true rfl)⟩ (Nat.le_of_ble_eq_true rfl) <|
    V_aload_n (tat ok_X8_both_0 (i := 25) (q := 51) rfl rfl) 0 rfl rfl <|
    V_iload_n (tat ok_X8_both_0 (i := 26) (q := 52) rfl rfl) 1 rfl rfl <|
    V_cv1 (ct_X8_spoiltTold (p1 v4) (p2 v4) a1 ) mo_X8_spoiltTold (tat ok_X8_both_0 (i := 27) (q := 55) rfl rfl) ml_X8_248 rfl ⟨by decide, _, rfl, rfl⟩ ⟨(Nat.le_of_ble_eq_true rfl), (Nat.le_of_ble_eq_true rfl)⟩ ⟨(Nat.le_of_ble_eq_true rfl), (Nat.le_of_ble_eq_true rfl)⟩ (Nat.le_of_ble_eq_true rfl) <|
    V_iret (tat ok_X8_both_0 (i := 28) (q := 56) rfl rfl) _ rfl (nar_int _) (hr ((F_X8_spoiltTold (p1 v4) a1), (p1 v4), (p2 v4)) (jx (P := oP P) kk (Eq.trans (if_neg c1) (Eq.trans (if_pos c2) (Eq.trans (if_neg c3) (ob e4)))))) ⟨(Nat.le_of_ble_eq_true rfl), (Nat.le_of_ble_eq_true rfl)⟩)) (fun c3 => V_bipush (tat ok_X8_both_0 (i := 11) (q := 23) rfl rfl) bp_m2 <|
    V_iret (tat ok_X8_both_0 (i := 12) (q := 24) rfl rfl) _ rfl (nar_int _) (hr ((-2), I, L) (jx (P := oP P) kk (Eq.trans (if_neg c1) (Eq.trans (if_pos c2) (if_pos c3))))) ⟨(Nat.le_of_ble_eq_true rfl), (Nat.le_of_ble_eq_true rfl)⟩)) (fun c2 => V_X8_both_9  hr (jx (P := oP P) kk (Eq.trans (if_neg c1) (if_neg c2)))))
theorem ct_X8_both  (I : WI) (L : WL) (a1 : Int32)  {v : (Int32 × WI × WL)} (h : (F_X8_both I L a1) = some v) : Ct x_X8_both 7 [.ref 0, .int a1] ly0 I L R0 0 0 (some (.int (p1 v)), ly0, (p1 (p2 v)), (p2 (p2 v)), R0) :=
  Ct_of_V mo_X8_both.1 (Nat.le_of_ble_eq_true rfl) (V_X8_both (P := fun x => x = v)  (fun _ e => by rw [e]) (by rw [h]; exact rfl))
def F_X8_rotate_10 (I : WI) (L : WL) (a1 : Int32) : (Int32 × WI × WL) :=
  ((-1), I, L)
theorem V_X8_rotate_10  {I : WI} {L : WL} {a1 : Int32}  {P : (Int32 × WI × WL) → Prop} {t : Tg} (hr : ∀ v, P v → t = (some (.int (p1 v)), ly0, (p1 (p2 v)), (p2 (p2 v)), R0)) (kk : P (F_X8_rotate_10 I L a1)) : V (zM x_X8_rotate 4 0 0 t) 10 [(0, .ref 0), (1, .int a1)] [] ly0 I L R0 0 0 :=
  V_iconst (tat ok_X8_rotate_0 (i := 5) (q := 11) rfl rfl) ic_m1 <|
    V_iret (tat ok_X8_rotate_0 (i := 6) (q := 12) rfl rfl) _ rfl (nar_int _) (hr ((-1), I, L) (jx (P := P) kk rfl)) ⟨(Nat.le_of_ble_eq_true rfl), (Nat.le_of_ble_eq_true rfl)⟩
def F_X8_rotate (I : WI) (L : WL) (a1 : Int32) : (Int32 × WI × WL) :=
  (if a1 < 0 then (F_X8_rotate_10 I L a1) else (if a1 < 8 then (((F_X1_clear (p1 (F_X0_rotateBy (p1 (F_X0_rotateBy I L 1 a1)) (p2 (F_X0_rotateBy I L 1 a1)) 2 a1)) 6) 1 1), (F_X1_clear (p1 (F_X0_rotateBy (p1 (F_X0_rotateBy I L 1 a1)) (p2 (F_X0_rotateBy I L 1 a1)) 2 a1)) 6), (p2 (F_X0_rotateBy (p1 (F_X0_rotateBy I L 1 a1)) (p2 (F_X0_rotateBy I L 1 a1)) 2 a1))) else (F_X8_rotate_10 I L a1)))
theorem V_X8_rotate  {I : WI} {L : WL} {a1 : Int32}  {P : (Int32 × WI × WL) → Prop} {t : Tg} (hr : ∀ v, P v → t = (some (.int (p1 v)), ly0, (p1 (p2 v)), (p2 (p2 v)), R0)) (kk : P (F_X8_rotate I L a1)) : V (zM x_X8_rotate 4 0 0 t) 0 [(0, .ref 0), (1, .int a1)] [] ly0 I L R0 0 0 :=
  V_iload_n (tat ok_X8_rotate_0 (i := 0) (q := 1) rfl rfl) 1 rfl rfl <|
    V_if_lt (tat ok_X8_rotate_0 (i := 1) (q := 4) rfl rfl) rfl (fun c1 => V_X8_rotate_10  hr (jx (P := P) kk (if_pos c1))) (fun c1 => V_iload_n (tat ok_X8_rotate_0 (i := 2) (q := 5) rfl rfl) 1 rfl rfl <|
    V_bipush (tat ok_X8_rotate_0 (i := 3) (q := 7) rfl rfl) bp_8 <|
    V_icmp_lt (tat ok_X8_rotate_0 (i := 4) (q := 10) rfl rfl) rfl (fun c2 => V_aload_n (tat ok_X8_rotate_0 (i := 7) (q := 13) rfl rfl) 0 rfl rfl <|
    V_getR (tat ok_X8_rotate_0 (i := 8) (q := 16) rfl rfl) fk_X8_14 rfl rfl <|
    V_iload_n (tat ok_X8_rotate_0 (i := 9) (q := 17) rfl rfl) 1 rfl rfl <|
    V_cv1v (ct_X0_rotateBy I L 1 a1 rfl) mo_X0_rotateBy (tat ok_X8_rotate_0 (i := 10) (q := 20) rfl rfl) ml_X8_254 rfl ⟨by decide, _, rfl, rfl⟩ ⟨(Nat.le_of_ble_eq_true rfl), (Nat.le_of_ble_eq_true rfl)⟩ ⟨(Nat.le_of_ble_eq_true rfl), (Nat.le_of_ble_eq_true rfl)⟩ (Nat.le_of_ble_eq_true rfl) <|
    V_aload_n (tat ok_X8_rotate_0 (i := 11) (q := 21) rfl rfl) 0 rfl rfl <|
    V_getR (tat ok_X8_rotate_0 (i := 12) (q := 24) rfl rfl) fk_X8_18 rfl rfl <|
    V_iload_n (tat ok_X8_rotate_0 (i := 13) (q := 25) rfl rfl) 1 rfl rfl <|
    V_cv1v (ct_X0_rotateBy (p1 (F_X0_rotateBy I L 1 a1)) (p2 (F_X0_rotateBy I L 1 a1)) 2 a1 rfl) mo_X0_rotateBy (tat ok_X8_rotate_0 (i := 14) (q := 28) rfl rfl) ml_X8_254 rfl ⟨by decide, _, rfl, rfl⟩ ⟨(Nat.le_of_ble_eq_true rfl), (Nat.le_of_ble_eq_true rfl)⟩ ⟨(Nat.le_of_ble_eq_true rfl), (Nat.le_of_ble_eq_true rfl)⟩ (Nat.le_of_ble_eq_true rfl) <|
    V_aload_n (tat ok_X8_rotate_0 (i := 15) (q := 29) rfl rfl) 0 rfl rfl <|
    V_getR (tat ok_X8_rotate_0 (i := 16) (q := 32) rfl rfl) fk_X8_33 rfl rfl <|
    V_cv0v (ct_X1_clear (p1 (F_X0_rotateBy (p1 (F_X0_rotateBy I L 1 a1)) (p2 (F_X0_rotateBy I L 1 a1)) 2 a1)) (p2 (F_X0_rotateBy (p1 (F_X0_rotateBy I L 1 a1)) (p2 (F_X0_rotateBy I L 1 a1)) 2 a1)) 6 (⟨rfl, rfl, rfl, rfl, rfl⟩)) mo_X1_clear (tat ok_X8_rotate_0 (i := 17) (q := 35) rfl rfl) ml_X8_258 rfl ⟨by decide, _, rfl, rfl⟩ ⟨(Nat.le_of_ble_eq_true rfl), (Nat.le_of_ble_eq_true rfl)⟩ ⟨(Nat.le_of_ble_eq_true rfl), (Nat.le_of_ble_eq_true rfl)⟩ (Nat.le_of_ble_eq_true rfl) <|
    V_aload_n (tat ok_X8_rotate_0 (i := 18) (q := 36) rfl rfl) 0 rfl rfl <|
    V_getR (tat ok_X8_rotate_0 (i := 19) (q := 39) rfl rfl) fk_X8_14 rfl rfl <|
    V_getI (tat ok_X8_rotate_0 (i := 20) (q := 42) rfl rfl) fk_X8_117 rfl <|
    V_iret (tat ok_X8_rotate_0 (i := 21) (q := 43) rfl rfl) _ rfl (nar_int _) (hr (((F_X1_clear (p1 (F_X0_rotateBy (p1 (F_X0_rotateBy I L 1 a1)) (p2 (F_X0_rotateBy I L 1 a1)) 2 a1)) 6) 1 1), (F_X1_clear (p1 (F_X0_rotateBy (p1 (F_X0_rotateBy I L 1 a1)) (p2 (F_X0_rotateBy I L 1 a1)) 2 a1)) 6), (p2 (F_X0_rotateBy (p1 (F_X0_rotateBy I L 1 a1)) (p2 (F_X0_rotateBy I L 1 a1)) 2 a1))) (jx (P := P) kk (Eq.trans (if_neg c1) (if_pos c2)))) ⟨(Nat.le_of_ble_eq_true rfl), (Nat.le_of_ble_eq_true rfl)⟩) (fun c2 => V_X8_rotate_10  hr (jx (P := P) kk (Eq.trans (if_neg c1) (if_neg c2)))))
theorem ct_X8_rotate  (I : WI) (L : WL) (a1 : Int32)  : Ct x_X8_rotate 4 [.ref 0, .int a1] ly0 I L R0 0 0 (some (.int (p1 (F_X8_rotate I L a1))), ly0, (p1 (p2 (F_X8_rotate I L a1))), (p2 (p2 (F_X8_rotate I L a1))), R0) :=
  Ct_of_V mo_X8_rotate.1 (Nat.le_of_ble_eq_true rfl) (V_X8_rotate (P := fun x => x = (F_X8_rotate I L a1))  (fun _ e => by rw [e]) rfl)
def F_X8_isPart_26 (a0 : Int32) (a1 : Int32) (a2 : Int32) (s0 : Int32) : Int32 :=
  s0
theorem V_X8_isPart_26  {I : WI} {L : WL} {a0 : Int32} {a1 : Int32} {a2 : Int32} {s0 : Int32} {P : Int32 → Prop} {t : Tg} (hs0 : bz s0 = s0) (hr : ∀ v, P v → t = (some (.int v), ly0, I, L, R0)) (kk : P (F_X8_isPart_26 a0 a1 a2 s0)) : V (zM x_X8_isPart 1 0 0 t) 26 [(0, .int a0), (1, .int a1), (2, .int a2)] [.int s0] ly0 I L R0 0 0 :=
  V_iret (tat ok_X8_isPart_0 (i := 16) (q := 27) rfl rfl) _ rfl (bz_nf hs0).1 (hr s0 (jx (P := P) kk rfl)) ⟨(Nat.le_of_ble_eq_true rfl), (Nat.le_of_ble_eq_true rfl)⟩
def F_X8_isPart_25 (a0 : Int32) (a1 : Int32) (a2 : Int32) : Int32 :=
  (F_X8_isPart_26 a0 a1 a2 0)
theorem V_X8_isPart_25  {I : WI} {L : WL} {a0 : Int32} {a1 : Int32} {a2 : Int32}  {P : Int32 → Prop} {t : Tg} (hr : ∀ v, P v → t = (some (.int v), ly0, I, L, R0)) (kk : P (F_X8_isPart_25 a0 a1 a2)) : V (zM x_X8_isPart 1 0 0 t) 25 [(0, .int a0), (1, .int a1), (2, .int a2)] [] ly0 I L R0 0 0 :=
  V_iconst (tat ok_X8_isPart_0 (i := 15) (q := 26) rfl rfl) ic_0 <|
    V_X8_isPart_26 rfl hr (jx (P := P) kk rfl)
def F_X8_isPart (a0 : Int32) (a1 : Int32) (a2 : Int32) : Int32 :=
  (if a0 < 0 then (F_X8_isPart_25 a0 a1 a2) else (if a2 ≤ a0 then (F_X8_isPart_25 a0 a1 a2) else (if a1 < 1 then (F_X8_isPart_25 a0 a1 a2) else (if (a2 - a0) < a1 then (F_X8_isPart_25 a0 a1 a2) else (F_X8_isPart_26 a0 a1 a2 1)))))
theorem V_X8_isPart  {I : WI} {L : WL} {a0 : Int32} {a1 : Int32} {a2 : Int32}  {P : Int32 → Prop} {t : Tg} (hr : ∀ v, P v → t = (some (.int v), ly0, I, L, R0)) (kk : P (F_X8_isPart a0 a1 a2)) : V (zM x_X8_isPart 1 0 0 t) 0 [(0, .int a0), (1, .int a1), (2, .int a2)] [] ly0 I L R0 0 0 :=
  V_iload_n (tat ok_X8_isPart_0 (i := 0) (q := 1) rfl rfl) 0 rfl rfl <|
    V_if_lt (tat ok_X8_isPart_0 (i := 1) (q := 4) rfl rfl) rfl (fun c1 => V_X8_isPart_25  hr (jx (P := P) kk (if_pos c1))) (fun c1 => V_iload_n (tat ok_X8_isPart_0 (i := 2) (q := 5) rfl rfl) 0 rfl rfl <|
    V_iload_n (tat ok_X8_isPart_0 (i := 3) (q := 6) rfl rfl) 2 rfl rfl <|
    V_icmp_ge (tat ok_X8_isPart_0 (i := 4) (q := 9) rfl rfl) rfl (fun c2 => V_X8_isPart_25  hr (jx (P := P) kk (Eq.trans (if_neg c1) (if_pos c2)))) (fun c2 => V_iload_n (tat ok_X8_isPart_0 (i := 5) (q := 10) rfl rfl) 1 rfl rfl <|
    V_iconst (tat ok_X8_isPart_0 (i := 6) (q := 11) rfl rfl) ic_1 <|
    V_icmp_lt (tat ok_X8_isPart_0 (i := 7) (q := 14) rfl rfl) rfl (fun c3 => V_X8_isPart_25  hr (jx (P := P) kk (Eq.trans (if_neg c1) (Eq.trans (if_neg c2) (if_pos c3))))) (fun c3 => V_iload_n (tat ok_X8_isPart_0 (i := 8) (q := 15) rfl rfl) 1 rfl rfl <|
    V_iload_n (tat ok_X8_isPart_0 (i := 9) (q := 16) rfl rfl) 2 rfl rfl <|
    V_iload_n (tat ok_X8_isPart_0 (i := 10) (q := 17) rfl rfl) 0 rfl rfl <|
    V_isub (tat ok_X8_isPart_0 (i := 11) (q := 18) rfl rfl) <|
    V_icmp_gt (tat ok_X8_isPart_0 (i := 12) (q := 21) rfl rfl) rfl (fun c4 => V_X8_isPart_25  hr (jx (P := P) kk (Eq.trans (if_neg c1) (Eq.trans (if_neg c2) (Eq.trans (if_neg c3) (if_pos c4)))))) (fun c4 => V_iconst (tat ok_X8_isPart_0 (i := 13) (q := 22) rfl rfl) ic_1 <|
    V_goto (tat ok_X8_isPart_0 (i := 14) (q := 25) rfl rfl) rfl <|
    V_X8_isPart_26 rfl hr (jx (P := P) kk (Eq.trans (if_neg c1) (Eq.trans (if_neg c2) (Eq.trans (if_neg c3) (if_neg c4)))))))))
theorem ct_X8_isPart  (I : WI) (L : WL) (a0 : Int32) (a1 : Int32) (a2 : Int32)  : Ct x_X8_isPart 1 [.int a0, .int a1, .int a2] ly0 I L R0 0 0 (some (.int (F_X8_isPart a0 a1 a2)), ly0, I, L, R0) :=
  Ct_of_V mo_X8_isPart.1 (Nat.le_of_ble_eq_true rfl) (V_X8_isPart (P := fun x => x = (F_X8_isPart a0 a1 a2))  (fun _ e => by rw [e]) rfl)
def F_X8_forgetPlans (I : WI) : WI :=
  (F_X1_clear (u2 I 2 0 0) 6)
theorem V_X8_forgetPlans  {I : WI} {L : WL}   {P : WI → Prop} {t : Tg} (hr : ∀ v, P v → t = (none, ly0, v, L, R0)) (kk : P (F_X8_forgetPlans I)) : V (zM x_X8_forgetPlans 2 0 0 t) 0 [(0, .ref 0)] [] ly0 I L R0 0 0 :=
  V_aload_n (tat ok_X8_forgetPlans_0 (i := 0) (q := 1) rfl rfl) 0 rfl rfl <|
    V_getR (tat ok_X8_forgetPlans_0 (i := 1) (q := 4) rfl rfl) fk_X8_18 rfl rfl <|
    V_iconst (tat ok_X8_forgetPlans_0 (i := 2) (q := 5) rfl rfl) ic_0 <|
    V_putZ (tat ok_X8_forgetPlans_0 (i := 3) (q := 8) rfl rfl) fk_X8_106 rfl rfl rfl <|
    V_aload_n (tat ok_X8_forgetPlans_0 (i := 4) (q := 9) rfl rfl) 0 rfl rfl <|
    V_getR (tat ok_X8_forgetPlans_0 (i := 5) (q := 12) rfl rfl) fk_X8_33 rfl rfl <|
    V_cv0v (ct_X1_clear (u2 I 2 0 0) L 6 (⟨rfl, rfl, rfl, rfl, rfl⟩)) mo_X1_clear (tat ok_X8_forgetPlans_0 (i := 6) (q := 15) rfl rfl) ml_X8_258 rfl ⟨by decide, _, rfl, rfl⟩ ⟨(Nat.le_of_ble_eq_true rfl), (Nat.le_of_ble_eq_true rfl)⟩ ⟨(Nat.le_of_ble_eq_true rfl), (Nat.le_of_ble_eq_true rfl)⟩ (Nat.le_of_ble_eq_true rfl) <|
    V_vret (tat ok_X8_forgetPlans_0 (i := 7) (q := 16) rfl rfl) rfl (hr (F_X1_clear (u2 I 2 0 0) 6) (jx (P := P) kk rfl)) ⟨(Nat.le_of_ble_eq_true rfl), (Nat.le_of_ble_eq_true rfl)⟩
theorem ct_X8_forgetPlans  (I : WI) (L : WL)  : Ct x_X8_forgetPlans 2 [.ref 0] ly0 I L R0 0 0 (none, ly0, (F_X8_forgetPlans I), L, R0) :=
  Ct_of_V mo_X8_forgetPlans.1 (Nat.le_of_ble_eq_true rfl) (V_X8_forgetPlans (P := fun x => x = (F_X8_forgetPlans I))  (fun _ e => by rw [e]) rfl)
def F_X8_cut_31 (I : WI) (L : WL) (a1 : Int32) (a2 : Int32) (a3 : Int32) (a4 : Int32) : (Int32 × WI × WL) :=
  ((-1), I, L)
theorem V_X8_cut_31  {I : WI} {L : WL} {a1 : Int32} {a2 : Int32} {a3 : Int32} {a4 : Int32}  {P : (Int32 × WI × WL) → Prop} {t : Tg} (hr : ∀ v, P v → t = (some (.int (p1 v)), ly0, (p1 (p2 v)), (p2 (p2 v)), R0)) (kk : P (F_X8_cut_31 I L a1 a2 a3 a4)) : V (zM x_X8_cut 4 0 0 t) 31 [(0, .ref 0), (1, .int a1), (2, .int a2), (3, .int a3), (4, .int a4)] [] ly0 I L R0 0 0 :=
  V_iconst (tat ok_X8_cut_0 (i := 14) (q := 32) rfl rfl) ic_m1 <|
    V_iret (tat ok_X8_cut_0 (i := 15) (q := 33) rfl rfl) _ rfl (nar_int _) (hr ((-1), I, L) (jx (P := P) kk rfl)) ⟨(Nat.le_of_ble_eq_true rfl), (Nat.le_of_ble_eq_true rfl)⟩
def F_X8_cut (I : WI) (L : WL) (a1 : Int32) (a2 : Int32) (a3 : Int32) (a4 : Int32) : (Int32 × WI × WL) :=
  (if (F_X8_isPart a1 a2 (I 1 1)) = 0 then (F_X8_cut_31 I L a1 a2 a3 a4) else (if (F_X8_isPart a3 a4 (I 1 2)) = 0 then (F_X8_cut_31 I L a1 a2 a3 a4) else ((F_X0_darkSquares (p2 (F_X0_resize I L 1 a2 a4 (lush (L 1 3) ((8 * a1) + a3)))) 1), (F_X8_forgetPlans (p1 (F_X0_resize I L 1 a2 a4 (lush (L 1 3) ((8 * a1) + a3))))), (p2 (F_X0_resize I L 1 a2 a4 (lush (L 1 3) ((8 * a1) + a3)))))))
theorem V_X8_cut  {I : WI} {L : WL} {a1 : Int32} {a2 : Int32} {a3 : Int32} {a4 : Int32}  {P : (Int32 × WI × WL) → Prop} {t : Tg} (hr : ∀ v, P v → t = (some (.int (p1 v)), ly0, (p1 (p2 v)), (p2 (p2 v)), R0)) (kk : P (F_X8_cut I L a1 a2 a3 a4)) : V (zM x_X8_cut 4 0 0 t) 0 [(0, .ref 0), (1, .int a1), (2, .int a2), (3, .int a3), (4, .int a4)] [] ly0 I L R0 0 0 :=
  V_iload_n (tat ok_X8_cut_0 (i := 0) (q := 1) rfl rfl) 1 rfl rfl <|
    V_iload_n (tat ok_X8_cut_0 (i := 1) (q := 2) rfl rfl) 2 rfl rfl <|
    V_aload_n (tat ok_X8_cut_0 (i := 2) (q := 3) rfl rfl) 0 rfl rfl <|
    V_getR (tat ok_X8_cut_0 (i := 3) (q := 6) rfl rfl) fk_X8_14 rfl rfl <|
    V_getI (tat ok_X8_cut_0 (i := 4) (q := 9) rfl rfl) fk_X8_117 rfl <|
    V_cs3 (ct_X8_isPart I L a1 a2 (I 1 1) ) mo_X8_isPart (tat ok_X8_cut_0 (i := 5) (q := 12) rfl rfl) ml_X8_261 ⟨(Nat.le_of_ble_eq_true rfl), (Nat.le_of_ble_eq_true rfl)⟩ ⟨(Nat.le_of_ble_eq_true rfl), (Nat.le_of_ble_eq_true rfl)⟩ (Nat.le_of_ble_eq_true rfl) <|
    V_if_eq (tat ok_X8_cut_0 (i := 6) (q := 15) rfl rfl) rfl (fun c1 => V_X8_cut_31  hr (jx (P := P) kk (if_pos c1))) (fun c1 => V_iload_n (tat ok_X8_cut_0 (i := 7) (q := 16) rfl rfl) 3 rfl rfl <|
    V_iload (tat ok_X8_cut_0 (i := 8) (q := 18) rfl rfl) 4 rfl <|
    V_aload_n (tat ok_X8_cut_0 (i := 9) (q := 19) rfl rfl) 0 rfl rfl <|
    V_getR (tat ok_X8_cut_0 (i := 10) (q := 22) rfl rfl) fk_X8_14 rfl rfl <|
    V_getI (tat ok_X8_cut_0 (i := 11) (q := 25) rfl rfl) fk_X8_120 rfl <|
    V_cs3 (ct_X8_isPart I L a3 a4 (I 1 2) ) mo_X8_isPart (tat ok_X8_cut_0 (i := 12) (q := 28) rfl rfl) ml_X8_261 ⟨(Nat.le_of_ble_eq_true rfl), (Nat.le_of_ble_eq_true rfl)⟩ ⟨(Nat.le_of_ble_eq_true rfl), (Nat.le_of_ble_eq_true rfl)⟩ (Nat.le_of_ble_eq_true rfl) <|
    V_if_ne (tat ok_X8_cut_0 (i := 13) (q := 31) rfl rfl) rfl (fun c2 => V_aload_n (tat ok_X8_cut_0 (i := 16) (q := 34) rfl rfl) 0 rfl rfl <|
    V_getR (tat ok_X8_cut_0 (i := 17) (q := 37) rfl rfl) fk_X8_14 rfl rfl <|
    V_iload_n (tat ok_X8_cut_0 (i := 18) (q := 38) rfl rfl) 2 rfl rfl <|
    V_iload (tat ok_X8_cut_0 (i := 19) (q := 40) rfl rfl) 4 rfl <|
    V_aload_n (tat ok_X8_cut_0 (i := 20) (q := 41) rfl rfl) 0 rfl rfl <|
    V_getR (tat ok_X8_cut_0 (i := 21) (q := 44) rfl rfl) fk_X8_14 rfl rfl <|
    V_getL (tat ok_X8_cut_0 (i := 22) (q := 47) rfl rfl) fk_X8_137 rfl <|
    V_bipush (tat ok_X8_cut_0 (i := 23) (q := 49) rfl rfl) bp_8 <|
    V_iload_n (tat ok_X8_cut_0 (i := 24) (q := 50) rfl rfl) 1 rfl rfl <|
    V_imul (tat ok_X8_cut_0 (i := 25) (q := 51) rfl rfl) <|
    V_iload_n (tat ok_X8_cut_0 (i := 26) (q := 52) rfl rfl) 3 rfl rfl <|
    V_iadd (tat ok_X8_cut_0 (i := 27) (q := 53) rfl rfl) <|
    V_lushr (tat ok_X8_cut_0 (i := 28) (q := 54) rfl rfl) <|
    V_cv3v (ct_X0_resize I L 1 a2 a4 (lush (L 1 3) ((8 * a1) + a3)) rfl) mo_X0_resize (tat ok_X8_cut_0 (i := 29) (q := 57) rfl rfl) ml_X8_265 rfl ⟨by decide, _, rfl, rfl⟩ ⟨(Nat.le_of_ble_eq_true rfl), (Nat.le_of_ble_eq_true rfl)⟩ ⟨(Nat.le_of_ble_eq_true rfl), (Nat.le_of_ble_eq_true rfl)⟩ (Nat.le_of_ble_eq_true rfl) <|
    V_aload_n (tat ok_X8_cut_0 (i := 30) (q := 58) rfl rfl) 0 rfl rfl <|
    V_cv0v (ct_X8_forgetPlans (p1 (F_X0_resize I L 1 a2 a4 (lush (L 1 3) ((8 * a1) + a3)))) (p2 (F_X0_resize I L 1 a2 a4 (lush (L 1 3) ((8 * a1) + a3))))  ) mo_X8_forgetPlans (tat ok_X8_cut_0 (i := 31) (q := 61) rfl rfl) ml_X8_269 rfl ⟨by decide, _, rfl, rfl⟩ ⟨(Nat.le_of_ble_eq_true rfl), (Nat.le_of_ble_eq_true rfl)⟩ ⟨(Nat.le_of_ble_eq_true rfl), (Nat.le_of_ble_eq_true rfl)⟩ (Nat.le_of_ble_eq_true rfl) <|
    V_aload_n (tat ok_X8_cut_0 (i := 32) (q := 62) rfl rfl) 0 rfl rfl <|
    V_getR (tat ok_X8_cut_0 (i := 33) (q := 65) rfl rfl) fk_X8_14 rfl rfl <|
    V_cv0 (ct_X0_darkSquares (F_X8_forgetPlans (p1 (F_X0_resize I L 1 a2 a4 (lush (L 1 3) ((8 * a1) + a3))))) (p2 (F_X0_resize I L 1 a2 a4 (lush (L 1 3) ((8 * a1) + a3)))) 1 rfl) mo_X0_darkSquares (tat ok_X8_cut_0 (i := 34) (q := 68) rfl rfl) ml_X8_159 rfl ⟨by decide, _, rfl, rfl⟩ ⟨(Nat.le_of_ble_eq_true rfl), (Nat.le_of_ble_eq_true rfl)⟩ ⟨(Nat.le_of_ble_eq_true rfl), (Nat.le_of_ble_eq_true rfl)⟩ (Nat.le_of_ble_eq_true rfl) <|
    V_iret (tat ok_X8_cut_0 (i := 35) (q := 69) rfl rfl) _ rfl (nar_int _) (hr ((F_X0_darkSquares (p2 (F_X0_resize I L 1 a2 a4 (lush (L 1 3) ((8 * a1) + a3)))) 1), (F_X8_forgetPlans (p1 (F_X0_resize I L 1 a2 a4 (lush (L 1 3) ((8 * a1) + a3))))), (p2 (F_X0_resize I L 1 a2 a4 (lush (L 1 3) ((8 * a1) + a3))))) (jx (P := P) kk (Eq.trans (if_neg c1) (if_neg c2)))) ⟨(Nat.le_of_ble_eq_true rfl), (Nat.le_of_ble_eq_true rfl)⟩) (fun c2 => V_X8_cut_31  hr (jx (P := P) kk (Eq.trans (if_neg c1) (if_pos c2)))))
theorem ct_X8_cut  (I : WI) (L : WL) (a1 : Int32) (a2 : Int32) (a3 : Int32) (a4 : Int32)  : Ct x_X8_cut 4 [.ref 0, .int a1, .int a2, .int a3, .int a4] ly0 I L R0 0 0 (some (.int (p1 (F_X8_cut I L a1 a2 a3 a4))), ly0, (p1 (p2 (F_X8_cut I L a1 a2 a3 a4))), (p2 (p2 (F_X8_cut I L a1 a2 a3 a4))), R0) :=
  Ct_of_V mo_X8_cut.1 (Nat.le_of_ble_eq_true rfl) (V_X8_cut (P := fun x => x = (F_X8_cut I L a1 a2 a3 a4))  (fun _ e => by rw [e]) rfl)
def F_X8_sew_54 (I : WI) (L : WL) (a1 : Int32) (a2 : Int32) : (Int32 × WI × WL) :=
  ((-2), I, L)
theorem V_X8_sew_54  {I : WI} {L : WL} {a1 : Int32} {a2 : Int32}  {P : (Int32 × WI × WL) → Prop} {t : Tg} (hr : ∀ v, P v → t = (some (.int (p1 v)), ly0, (p1 (p2 v)), (p2 (p2 v)), R0)) (kk : P (F_X8_sew_54 I L a1 a2)) : V (zM x_X8_sew 4 0 0 t) 54 [(0, .ref 0), (1, .int a1), (2, .int a2)] [] ly0 I L R0 0 0 :=
  V_bipush (tat ok_X8_sew_0 (i := 26) (q := 56) rfl rfl) bp_m2 <|
    V_iret (tat ok_X8_sew_0 (i := 27) (q := 57) rfl rfl) _ rfl (nar_int _) (hr ((-2), I, L) (jx (P := P) kk rfl)) ⟨(Nat.le_of_ble_eq_true rfl), (Nat.le_of_ble_eq_true rfl)⟩
def F_X8_sew_127 (I : WI) (L : WL) (a1 : Int32) (a2 : Int32) : (Int32 × WI × WL) :=
  ((-3), I, L)
theorem V_X8_sew_127  {I : WI} {L : WL} {a1 : Int32} {a2 : Int32}  {P : (Int32 × WI × WL) → Prop} {t : Tg} (hr : ∀ v, P v → t = (some (.int (p1 v)), ly0, (p1 (p2 v)), (p2 (p2 v)), R0)) (kk : P (F_X8_sew_127 I L a1 a2)) : V (zM x_X8_sew 4 0 0 t) 127 [(0, .ref 0), (1, .int a1), (2, .int a2)] [] ly0 I L R0 0 0 :=
  V_bipush (tat ok_X8_sew_1 (i := 20) (q := 129) rfl rfl) bp_m3 <|
    V_iret (tat ok_X8_sew_1 (i := 21) (q := 130) rfl rfl) _ rfl (nar_int _) (hr ((-3), I, L) (jx (P := P) kk rfl)) ⟨(Nat.le_of_ble_eq_true rfl), (Nat.le_of_ble_eq_true rfl)⟩
def F_X8_sew_158 (I : WI) (L : WL) (a1 : Int32) (a2 : Int32) (a4 : Int32) (a5 : Int32) (s0 : Int32) (s1 : Int64) : (Int32 × WI × WL) :=
  ((F_X0_darkSquares (p2 (F_X0_resize I L 1 a4 a5 ((L 1 3) ||| (lsh s1 s0)))) 1), (F_X8_forgetPlans (p1 (F_X0_resize I L 1 a4 a5 ((L 1 3) ||| (lsh s1 s0))))), (p2 (F_X0_resize I L 1 a4 a5 ((L 1 3) ||| (lsh s1 s0)))))
theorem V_X8_sew_158  {I : WI} {L : WL} {a1 : Int32} {a2 : Int32} {a4 : Int32} {a5 : Int32} {s0 : Int32} {s1 : Int64} {P : (Int32 × WI × WL) → Prop} {t : Tg} (hr : ∀ v, P v → t = (some (.int (p1 v)), ly0, (p1 (p2 v)), (p2 (p2 v)), R0)) (kk : P (F_X8_sew_158 I L a1 a2 a4 a5 s0 s1)) : V (zM x_X8_sew 4 0 0 t) 158 [(0, .ref 0), (1, .int a1), (2, .int a2), (4, .int a4), (5, .int a5)] [.int s0, .long s1] ly0 I L R0 0 0 :=
  V_lshl (tat ok_X8_sew_1 (i := 35) (q := 159) rfl rfl) <|
    V_lstore (lv' := [(6, .long (lsh s1 s0)), (0, .ref 0), (1, .int a1), (2, .int a2), (4, .int a4), (5, .int a5)]) (tat ok_X8_sew_1 (i := 36) (q := 161) rfl rfl) (Nat.le_of_ble_eq_true rfl) rfl <|
    V_aload_n (tat ok_X8_sew_1 (i := 37) (q := 162) rfl rfl) 1 rfl rfl <|
    V_getR (tat ok_X8_sew_1 (i := 38) (q := 165) rfl rfl) fk_X8_14 rfl rfl <|
    V_iload (tat ok_X8_sew_1 (i := 39) (q := 167) rfl rfl) 4 rfl <|
    V_iload (tat ok_X8_sew_2 (i := 0) (q := 169) rfl rfl) 5 rfl <|
    V_aload_n (tat ok_X8_sew_2 (i := 1) (q := 170) rfl rfl) 1 rfl rfl <|
    V_getR (tat ok_X8_sew_2 (i := 2) (q := 173) rfl rfl) fk_X8_14 rfl rfl <|
    V_getL (tat ok_X8_sew_2 (i := 3) (q := 176) rfl rfl) fk_X8_137 rfl <|
    V_lload (tat ok_X8_sew_2 (i := 4) (q := 178) rfl rfl) 0 rfl <|
    V_lor (tat ok_X8_sew_2 (i := 5) (q := 179) rfl rfl) <|
    V_cv3v (ct_X0_resize I L 1 a4 a5 ((L 1 3) ||| (lsh s1 s0)) rfl) mo_X0_resize (tat ok_X8_sew_2 (i := 6) (q := 182) rfl rfl) ml_X8_265 rfl ⟨by decide, _, rfl, rfl⟩ ⟨(Nat.le_of_ble_eq_true rfl), (Nat.le_of_ble_eq_true rfl)⟩ ⟨(Nat.le_of_ble_eq_true rfl), (Nat.le_of_ble_eq_true rfl)⟩ (Nat.le_of_ble_eq_true rfl) <|
    V_aload_n (tat ok_X8_sew_2 (i := 7) (q := 183) rfl rfl) 1 rfl rfl <|
    V_cv0v (ct_X8_forgetPlans (p1 (F_X0_resize I L 1 a4 a5 ((L 1 3) ||| (lsh s1 s0)))) (p2 (F_X0_resize I L 1 a4 a5 ((L 1 3) ||| (lsh s1 s0))))  ) mo_X8_forgetPlans (tat ok_X8_sew_2 (i := 8) (q := 186) rfl rfl) ml_X8_269 rfl ⟨by decide, _, rfl, rfl⟩ ⟨(Nat.le_of_ble_eq_true rfl), (Nat.le_of_ble_eq_true rfl)⟩ ⟨(Nat.le_of_ble_eq_true rfl), (Nat.le_of_ble_eq_true rfl)⟩ (Nat.le_of_ble_eq_true rfl) <|
    V_aload_n (tat ok_X8_sew_2 (i := 9) (q := 187) rfl rfl) 1 rfl rfl <|
    V_getR (tat ok_X8_sew_2 (i := 10) (q := 190) rfl rfl) fk_X8_14 rfl rfl <|
    V_cv0 (ct_X0_darkSquares (F_X8_forgetPlans (p1 (F_X0_resize I L 1 a4 a5 ((L 1 3) ||| (lsh s1 s0))))) (p2 (F_X0_resize I L 1 a4 a5 ((L 1 3) ||| (lsh s1 s0)))) 1 rfl) mo_X0_darkSquares (tat ok_X8_sew_2 (i := 11) (q := 193) rfl rfl) ml_X8_159 rfl ⟨by decide, _, rfl, rfl⟩ ⟨(Nat.le_of_ble_eq_true rfl), (Nat.le_of_ble_eq_true rfl)⟩ ⟨(Nat.le_of_ble_eq_true rfl), (Nat.le_of_ble_eq_true rfl)⟩ (Nat.le_of_ble_eq_true rfl) <|
    V_iret (tat ok_X8_sew_2 (i := 12) (q := 194) rfl rfl) _ rfl (nar_int _) (hr ((F_X0_darkSquares (p2 (F_X0_resize I L 1 a4 a5 ((L 1 3) ||| (lsh s1 s0)))) 1), (F_X8_forgetPlans (p1 (F_X0_resize I L 1 a4 a5 ((L 1 3) ||| (lsh s1 s0))))), (p2 (F_X0_resize I L 1 a4 a5 ((L 1 3) ||| (lsh s1 s0))))) (jx (P := P) kk rfl)) ⟨(Nat.le_of_ble_eq_true rfl), (Nat.le_of_ble_eq_true rfl)⟩
def F_X8_sew_111 (I : WI) (L : WL) (a1 : Int32) (a2 : Int32) (r3 : Nat) (a4 : Int32) (s0 : Int32) : (Int32 × WI × WL) :=
  (if 8 < a4 then (F_X8_sew_127 I L a1 a2) else (if s0 ≤ 8 then (if a2 = 0 then (F_X8_sew_158 I L a1 a2 a4 s0 (I 1 2) (L r3 3)) else (F_X8_sew_158 I L a1 a2 a4 s0 (8 * (I 1 1)) (L r3 3))) else (F_X8_sew_127 I L a1 a2)))
theorem V_X8_sew_111  {I : WI} {L : WL} {a1 : Int32} {a2 : Int32} {r3 : Nat} {a4 : Int32} {s0 : Int32} {P : (Int32 × WI × WL) → Prop} {t : Tg} (hr3 : isX0 r3) (hr : ∀ v, P v → t = (some (.int (p1 v)), ly0, (p1 (p2 v)), (p2 (p2 v)), R0)) (kk : P (F_X8_sew_111 I L a1 a2 r3 a4 s0)) : V (zM x_X8_sew 4 0 0 t) 111 [(0, .ref 0), (1, .int a1), (2, .int a2), (3, .ref r3), (4, .int a4)] [.int s0] ly0 I L R0 0 0 :=
  V_istore (lv' := [(5, .int s0), (0, .ref 0), (1, .int a1), (2, .int a2), (3, .ref r3), (4, .int a4)]) (tat ok_X8_sew_1 (i := 13) (q := 113) rfl rfl) (Nat.le_of_ble_eq_true rfl) rfl <|
    V_iload (tat ok_X8_sew_1 (i := 14) (q := 115) rfl rfl) 5 rfl <|
    V_bipush (tat ok_X8_sew_1 (i := 15) (q := 117) rfl rfl) bp_8 <|
    V_icmp_gt (tat ok_X8_sew_1 (i := 16) (q := 120) rfl rfl) rfl (fun c8 => V_pick [1, 2, 3] rfl (V_X8_sew_127  hr (jx (P := P) kk (if_pos c8)))) (fun c8 => V_iload (tat ok_X8_sew_1 (i := 17) (q := 122) rfl rfl) 0 rfl <|
    V_bipush (tat ok_X8_sew_1 (i := 18) (q := 124) rfl rfl) bp_8 <|
    V_icmp_le (tat ok_X8_sew_1 (i := 19) (q := 127) rfl rfl) rfl (fun c9 => V_aload_n (tat ok_X8_sew_1 (i := 22) (q := 131) rfl rfl) 4 rfl rfl <|
    V_getL (tat ok_X8_sew_1 (i := 23) (q := 134) rfl rfl) fk_X8_137 hr3 <|
    V_iload_n (tat ok_X8_sew_1 (i := 24) (q := 135) rfl rfl) 3 rfl rfl <|
    V_if_eq (tat ok_X8_sew_1 (i := 25) (q := 138) rfl rfl) rfl (fun c10 => V_aload_n (tat ok_X8_sew_1 (i := 32) (q := 152) rfl rfl) 1 rfl rfl <|
    V_getR (tat ok_X8_sew_1 (i := 33) (q := 155) rfl rfl) fk_X8_14 rfl rfl <|
    V_getI (tat ok_X8_sew_1 (i := 34) (q := 158) rfl rfl) fk_X8_120 rfl <|
    V_pick [1, 2, 3, 5, 0] rfl (V_X8_sew_158  hr (jx (P := P) kk (Eq.trans (if_neg c8) (Eq.trans (if_pos c9) (if_pos c10)))))) (fun c10 => V_bipush (tat ok_X8_sew_1 (i := 26) (q := 140) rfl rfl) bp_8 <|
    V_aload_n (tat ok_X8_sew_1 (i := 27) (q := 141) rfl rfl) 1 rfl rfl <|
    V_getR (tat ok_X8_sew_1 (i := 28) (q := 144) rfl rfl) fk_X8_14 rfl rfl <|
    V_getI (tat ok_X8_sew_1 (i := 29) (q := 147) rfl rfl) fk_X8_117 rfl <|
    V_imul (tat ok_X8_sew_1 (i := 30) (q := 148) rfl rfl) <|
    V_goto (tat ok_X8_sew_1 (i := 31) (q := 151) rfl rfl) rfl <|
    V_pick [1, 2, 3, 5, 0] rfl (V_X8_sew_158  hr (jx (P := P) kk (Eq.trans (if_neg c8) (Eq.trans (if_pos c9) (if_neg c10))))))) (fun c9 => V_pick [1, 2, 3] rfl (V_X8_sew_127  hr (jx (P := P) kk (Eq.trans (if_neg c8) (if_neg c9))))))
def F_X8_sew_83 (I : WI) (L : WL) (a1 : Int32) (a2 : Int32) (r3 : Nat) (s0 : Int32) : (Int32 × WI × WL) :=
  (if a2 = 0 then (F_X8_sew_111 I L a1 a2 r3 s0 ((I 1 2) + (I r3 2))) else (F_X8_sew_111 I L a1 a2 r3 s0 (I 1 2)))
