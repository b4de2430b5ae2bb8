theorem ct_X8_plan  (I : WI) (L : WL) (a1 : Int32)  : Ct x_X8_plan 7 [.ref 0, .int a1] ly0 I L R0 0 0 (some (.int (p1 (F_X8_plan I L a1))), ly0, (p2 (F_X8_plan I L a1)), L, R0) :=
  Ct_of_V mo_X8_plan.1 (Nat.le_of_ble_eq_true rfl) (V_X8_plan (P := fun x => x = (F_X8_plan I L a1))  (fun _ e => by rw [e]) rfl)
def F_X8_nearest_9 (I : WI) (L : WL) (a1 : Int32) : Option (Int32 × WI) :=
  some ((-1), I)
theorem V_X8_nearest_9  {I : WI} {L : WL} {a1 : Int32}  {P : (Int32 × WI) → Prop} {t : Tg} (hr : ∀ v, P v → t = (some (.int (p1 v)), ly0, (p2 v), L, R0)) (kk : oP P (F_X8_nearest_9 I L a1)) : V (zM x_X8_nearest 6 0 0 t) 9 [(0, .ref 0), (1, .int a1)] [] ly0 I L R0 0 0 :=
  V_iconst (tat ok_X8_nearest_0 (i := 5) (q := 10) rfl rfl) ic_m1 <|
    V_iret (tat ok_X8_nearest_0 (i := 6) (q := 11) rfl rfl) _ rfl (nar_int _) (hr ((-1), I) (jx (P := oP P) kk rfl)) ⟨(Nat.le_of_ble_eq_true rfl), (Nat.le_of_ble_eq_true rfl)⟩
def F_X8_nearest (I : WI) (L : WL) (a1 : Int32) : Option (Int32 × WI) :=
  (if a1 < 0 then (F_X8_nearest_9 I L a1) else (if a1 ≤ 2 then (if (bz (I 2 0)) = 0 then some ((-2), I) else (Option.bind (F_X7_findNearest I 1 ((L 1 3) ^^^ (L 2 3))) (fun v4 => some ((F_X8_toldOf v4 a1 (v4 27 4)), v4)))) else (F_X8_nearest_9 I L a1)))
theorem V_X8_nearest  {I : WI} {L : WL} {a1 : Int32}  {P : (Int32 × WI) → Prop} {t : Tg} (hr : ∀ v, P v → t = (some (.int (p1 v)), ly0, (p2 v), L, R0)) (kk : oP P (F_X8_nearest I L a1)) : V (zM x_X8_nearest 6 0 0 t) 0 [(0, .ref 0), (1, .int a1)] [] ly0 I L R0 0 0 :=
  V_iload_n (tat ok_X8_nearest_0 (i := 0) (q := 1) rfl rfl) 1 rfl rfl <|
    V_if_lt (tat ok_X8_nearest_0 (i := 1) (q := 4) rfl rfl) rfl (fun c1 => V_X8_nearest_9  hr (jx (P := oP P) kk (if_pos c1))) (fun c1 => V_iload_n (tat ok_X8_nearest_0 (i := 2) (q := 5) rfl rfl) 1 rfl rfl <|
    V_iconst (tat ok_X8_nearest_0 (i := 3) (q := 6) rfl rfl) ic_2 <|
    V_icmp_le (tat ok_X8_nearest_0 (i := 4) (q := 9) rfl rfl) rfl (fun c2 => V_aload_n (tat ok_X8_nearest_0 (i := 7) (q := 12) rfl rfl) 0 rfl rfl <|
    V_getR (tat ok_X8_nearest_0 (i := 8) (q := 15) rfl rfl) fk_X8_18 rfl rfl <|
    V_getZ (tat ok_X8_nearest_0 (i := 9) (q := 18) rfl rfl) fk_X8_106 rfl <|
    V_if_ne (tat ok_X8_nearest_0 (i := 10) (q := 21) rfl rfl) rfl (fun c3 => V_aload_n (tat ok_X8_nearest_0 (i := 13) (q := 25) rfl rfl) 0 rfl rfl <|
    V_getR (tat ok_X8_nearest_0 (i := 14) (q := 28) rfl rfl) fk_X8_63 rfl rfl <|
    V_aload_n (tat ok_X8_nearest_0 (i := 15) (q := 29) rfl rfl) 0 rfl rfl <|
    V_getR (tat ok_X8_nearest_0 (i := 16) (q := 32) rfl rfl) fk_X8_14 rfl rfl <|
    V_aload_n (tat ok_X8_nearest_0 (i := 17) (q := 33) rfl rfl) 0 rfl rfl <|
    V_getR (tat ok_X8_nearest_0 (i := 18) (q := 36) rfl rfl) fk_X8_14 rfl rfl <|
    V_getL (tat ok_X8_nearest_0 (i := 19) (q := 39) rfl rfl) fk_X8_137 rfl <|
    V_aload_n (tat ok_X8_nearest_0 (i := 20) (q := 40) rfl rfl) 0 rfl rfl <|
    V_getR (tat ok_X8_nearest_0 (i := 21) (q := 43) rfl rfl) fk_X8_18 rfl rfl <|
    V_getL (tat ok_X8_nearest_0 (i := 22) (q := 46) rfl rfl) fk_X8_137 rfl <|
    V_lxor (tat ok_X8_nearest_0 (i := 23) (q := 47) rfl rfl) <|
    oP_case (jx (P := oP P) kk (Eq.trans (if_neg c1) (Eq.trans (if_pos c2) (if_neg c3)))) (fun v4 e4 _ => V_cv2v (ct_X7_findNearest I L 1 ((L 1 3) ^^^ (L 2 3)) rfl e4) mo_X7_findNearest (tat ok_X8_nearest_0 (i := 24) (q := 50) rfl rfl) ml_X8_220 rfl ⟨by decide, _, rfl, rfl⟩ ⟨(Nat.le_of_ble_eq_true rfl), (Nat.le_of_ble_eq_true rfl)⟩ ⟨(Nat.le_of_ble_eq_true rfl), (Nat.le_of_ble_eq_true rfl)⟩ (Nat.le_of_ble_eq_true rfl) <|
    V_aload_n (tat ok_X8_nearest_0 (i := 25) (q := 51) rfl rfl) 0 rfl rfl <|
    V_iload_n (tat ok_X8_nearest_0 (i := 26) (q := 52) rfl rfl) 1 rfl rfl <|
    V_aload_n (tat ok_X8_nearest_0 (i := 27) (q := 53) rfl rfl) 0 rfl rfl <|
    V_getR (tat ok_X8_nearest_0 (i := 28) (q := 56) rfl rfl) fk_X8_63 rfl rfl <|
    V_getI (tat ok_X8_nearest_0 (i := 29) (q := 59) rfl rfl) fk_X8_223 rfl <|
    V_cv2 (ct_X8_toldOf v4 L a1 (v4 27 4) ) mo_X8_toldOf (tat ok_X8_nearest_0 (i := 30) (q := 62) rfl rfl) ml_X8_217 rfl ⟨by decide, _, rfl, rfl⟩ ⟨(Nat.le_of_ble_eq_true rfl), (Nat.le_of_ble_eq_true rfl)⟩ ⟨(Nat.le_of_ble_eq_true rfl), (Nat.le_of_ble_eq_true rfl)⟩ (Nat.le_of_ble_eq_true rfl) <|
    V_iret (tat ok_X8_nearest_0 (i := 31) (q := 63) rfl rfl) _ rfl (nar_int _) (hr ((F_X8_toldOf v4 a1 (v4 27 4)), v4) (jx (P := oP P) kk (Eq.trans (if_neg c1) (Eq.trans (if_pos c2) (Eq.trans (if_neg c3) (ob e4)))))) ⟨(Nat.le_of_ble_eq_true rfl), (Nat.le_of_ble_eq_true rfl)⟩)) (fun c3 => V_bipush (tat ok_X8_nearest_0 (i := 11) (q := 23) rfl rfl) bp_m2 <|
    V_iret (tat ok_X8_nearest_0 (i := 12) (q := 24) rfl rfl) _ rfl (nar_int _) (hr ((-2), I) (jx (P := oP P) kk (Eq.trans (if_neg c1) (Eq.trans (if_pos c2) (if_pos c3))))) ⟨(Nat.le_of_ble_eq_true rfl), (Nat.le_of_ble_eq_true rfl)⟩)) (fun c2 => V_X8_nearest_9  hr (jx (P := oP P) kk (Eq.trans (if_neg c1) (if_neg c2)))))
theorem ct_X8_nearest  (I : WI) (L : WL) (a1 : Int32)  {v : (Int32 × WI)} (h : (F_X8_nearest I L a1) = some v) : Ct x_X8_nearest 6 [.ref 0, .int a1] ly0 I L R0 0 0 (some (.int (p1 v)), ly0, (p2 v), L, R0) :=
  Ct_of_V mo_X8_nearest.1 (Nat.le_of_ble_eq_true rfl) (V_X8_nearest (P := fun x => x = v)  (fun _ e => by rw [e]) (by rw [h]; exact rfl))
def F_X8_lightest_9 (I : WI) (L : WL) (a1 : Int32) : Option (Int32 × WI) :=
  some ((-1), I)
theorem V_X8_lightest_9  {I : WI} {L : WL} {a1 : Int32}  {P : (Int32 × WI) → Prop} {t : Tg} (hr : ∀ v, P v → t = (some (.int (p1 v)), ly0, (p2 v), L, R0)) (kk : oP P (F_X8_lightest_9 I L a1)) : V (zM x_X8_lightest 6 0 0 t) 9 [(0, .ref 0), (1, .int a1)] [] ly0 I L R0 0 0 :=
  V_iconst (tat ok_X8_lightest_0 (i := 5) (q := 10) rfl rfl) ic_m1 <|
    V_iret (tat ok_X8_lightest_0 (i := 6) (q := 11) rfl rfl) _ rfl (nar_int _) (hr ((-1), I) (jx (P := oP P) kk rfl)) ⟨(Nat.le_of_ble_eq_true rfl), (Nat.le_of_ble_eq_true rfl)⟩
def F_X8_lightest (I : WI) (L : WL) (a1 : Int32) : Option (Int32 × WI) :=
  (if a1 < 0 then (F_X8_lightest_9 I L a1) else (if a1 ≤ 2 then (Option.bind (F_X7_findNearest I 1 (L 1 3)) (fun v3 => some ((F_X8_toldOf v3 a1 (v3 27 4)), v3))) else (F_X8_lightest_9 I L a1)))
theorem V_X8_lightest  {I : WI} {L : WL} {a1 : Int32}  {P : (Int32 × WI) → Prop} {t : Tg} (hr : ∀ v, P v → t = (some (.int (p1 v)), ly0, (p2 v), L, R0)) (kk : oP P (F_X8_lightest I L a1)) : V (zM x_X8_lightest 6 0 0 t) 0 [(0, .ref 0), (1, .int a1)] [] ly0 I L R0 0 0 :=
  V_iload_n (tat ok_X8_lightest_0 (i := 0) (q := 1) rfl rfl) 1 rfl rfl <|
    V_if_lt (tat ok_X8_lightest_0 (i := 1) (q := 4) rfl rfl) rfl (fun c1 => V_X8_lightest_9  hr (jx (P := oP P) kk (if_pos c1))) (fun c1 => V_iload_n (tat ok_X8_lightest_0 (i := 2) (q := 5) rfl rfl) 1 rfl rfl <|
    V_iconst (tat ok_X8_lightest_0 (i := 3) (q := 6) rfl rfl) ic_2 <|
    V_icmp_le (tat ok_X8_lightest_0 (i := 4) (q := 9) rfl rfl) rfl (fun c2 => V_aload_n (tat ok_X8_lightest_0 (i := 7) (q := 12) rfl rfl) 0 rfl rfl <|
    V_getR (tat ok_X8_lightest_0 (i := 8) (q := 15) rfl rfl) fk_X8_63 rfl rfl <|
    V_aload_n (tat ok_X8_lightest_0 (i := 9) (q := 16) rfl rfl) 0 rfl rfl <|
    V_getR (tat ok_X8_lightest_0 (i := 10) (q := 19) rfl rfl) fk_X8_14 rfl rfl <|
    V_aload_n (tat ok_X8_lightest_0 (i := 11) (q := 20) rfl rfl) 0 rfl rfl <|
    V_getR (tat ok_X8_lightest_0 (i := 12) (q := 23) rfl rfl) fk_X8_14 rfl rfl <|
    V_getL (tat ok_X8_lightest_0 (i := 13) (q := 26) rfl rfl) fk_X8_137 rfl <|
    oP_case (jx (P := oP P) kk (Eq.trans (if_neg c1) (if_pos c2))) (fun v3 e3 _ => V_cv2v (ct_X7_findNearest I L 1 (L 1 3) rfl e3) mo_X7_findNearest (tat ok_X8_lightest_0 (i := 14) (q := 29) rfl rfl) ml_X8_220 rfl ⟨by decide, _, rfl, rfl⟩ ⟨(Nat.le_of_ble_eq_true rfl), (Nat.le_of_ble_eq_true rfl)⟩ ⟨(Nat.le_of_ble_eq_true rfl), (Nat.le_of_ble_eq_true rfl)⟩ (Nat.le_of_ble_eq_true rfl) <|
    V_aload_n (tat ok_X8_lightest_0 (i := 15) (q := 30) rfl rfl) 0 rfl rfl <|
    V_iload_n (tat ok_X8_lightest_0 (i := 16) (q := 31) rfl rfl) 1 rfl rfl <|
    V_aload_n (tat ok_X8_lightest_0 (i := 17) (q := 32) rfl rfl) 0 rfl rfl <|
    V_getR (tat ok_X8_lightest_0 (i := 18) (q := 35) rfl rfl) fk_X8_63 rfl rfl <|
    V_getI (tat ok_X8_lightest_0 (i := 19) (q := 38) rfl rfl) fk_X8_223 rfl <|
    V_cv2 (ct_X8_toldOf v3 L a1 (v3 27 4) ) mo_X8_toldOf (tat ok_X8_lightest_0 (i := 20) (q := 41) rfl rfl) ml_X8_217 rfl ⟨by decide, _, rfl, rfl⟩ ⟨(Nat.le_of_ble_eq_true rfl), (Nat.le_of_ble_eq_true rfl)⟩ ⟨(Nat.le_of_ble_eq_true rfl), (Nat.le_of_ble_eq_true rfl)⟩ (Nat.le_of_ble_eq_true rfl) <|
    V_iret (tat ok_X8_lightest_0 (i := 21) (q := 42) rfl rfl) _ rfl (nar_int _) (hr ((F_X8_toldOf v3 a1 (v3 27 4)), v3) (jx (P := oP P) kk (Eq.trans (if_neg c1) (Eq.trans (if_pos c2) (ob e3))))) ⟨(Nat.le_of_ble_eq_true rfl), (Nat.le_of_ble_eq_true rfl)⟩)) (fun c2 => V_X8_lightest_9  hr (jx (P := oP P) kk (Eq.trans (if_neg c1) (if_neg c2)))))
theorem ct_X8_lightest  (I : WI) (L : WL) (a1 : Int32)  {v : (Int32 × WI)} (h : (F_X8_lightest I L a1) = some v) : Ct x_X8_lightest 6 [.ref 0, .int a1] ly0 I L R0 0 0 (some (.int (p1 v)), ly0, (p2 v), L, R0) :=
  Ct_of_V mo_X8_lightest.1 (Nat.le_of_ble_eq_true rfl) (V_X8_lightest (P := fun x => x = v)  (fun _ e => by rw [e]) (by rw [h]; exact rfl))
def F_X8_blind_9 (I : WI) (L : WL) (a1 : Int32) : Option (Int32 × WI) :=
  some ((-1), I)
theorem V_X8_blind_9  {I : WI} {L : WL} {a1 : Int32}  {P : (Int32 × WI) → Prop} {t : Tg} (hr : ∀ v, P v → t = (some (.int (p1 v)), ly0, (p2 v), L, R0)) (kk : oP P (F_X8_blind_9 I L a1)) : V (zM x_X8_blind 6 0 0 t) 9 [(0, .ref 0), (1, .int a1)] [] ly0 I L R0 0 0 :=
  V_iconst (tat ok_X8_blind_0 (i := 5) (q := 10) rfl rfl) ic_m1 <|
    V_iret (tat ok_X8_blind_0 (i := 6) (q := 11) rfl rfl) _ rfl (nar_int _) (hr ((-1), I) (jx (P := oP P) kk rfl)) ⟨(Nat.le_of_ble_eq_true rfl), (Nat.le_of_ble_eq_true rfl)⟩
def F_X8_blind_85 (I : WI) (L : WL) (a1 : Int32) (s0 : Int32) : Option (Int32 × WI) :=
  some (s0, I)
theorem V_X8_blind_85  {I : WI} {L : WL} {a1 : Int32} {s0 : Int32} {P : (Int32 × WI) → Prop} {t : Tg} (hr : ∀ v, P v → t = (some (.int (p1 v)), ly0, (p2 v), L, R0)) (kk : oP P (F_X8_blind_85 I L a1 s0)) : V (zM x_X8_blind 6 0 0 t) 85 [(0, .ref 0), (1, .int a1)] [.int s0] ly0 I L R0 0 0 :=
  V_iret (tat ok_X8_blind_1 (i := 1) (q := 86) rfl rfl) _ rfl (nar_int _) (hr (s0, I) (jx (P := oP P) kk rfl)) ⟨(Nat.le_of_ble_eq_true rfl), (Nat.le_of_ble_eq_true rfl)⟩
def F_X8_blind (I : WI) (L : WL) (a1 : Int32) : Option (Int32 × WI) :=
  (if a1 < 0 then (F_X8_blind_9 I L a1) else (if a1 ≤ 1 then (if (bz (I 2 0)) = 0 then some ((-2), I) else (Option.bind (F_X7_goBlind I 1 ((L 1 3) ^^^ (L 2 3))) (fun v4 => (if a1 = 1 then some ((v4 27 4), v4) else (if (bz (v4 27 0)) = 0 then (F_X8_blind_85 v4 L a1 (-4)) else (F_X8_blind_85 v4 L a1 (v4 27 5))))))) else (F_X8_blind_9 I L a1)))
theorem V_X8_blind  {I : WI} {L : WL} {a1 : Int32}  {P : (Int32 × WI) → Prop} {t : Tg} (hr : ∀ v, P v → t = (some (.int (p1 v)), ly0, (p2 v), L, R0)) (kk : oP P (F_X8_blind I L a1)) : V (zM x_X8_blind 6 0 0 t) 0 [(0, .ref 0), (1, .int a1)] [] ly0 I L R0 0 0 :=
  V_iload_n (tat ok_X8_blind_0 (i := 0) (q := 1) rfl rfl) 1 rfl rfl <|
    V_if_lt (tat ok_X8_blind_0 (i := 1) (q := 4) rfl rfl) rfl (fun c1 => V_X8_blind_9  hr (jx (P := oP P) kk (if_pos c1))) (fun c1 => V_iload_n (tat ok_X8_blind_0 (i := 2) (q := 5) rfl rfl) 1 rfl rfl <|
    V_iconst (tat ok_X8_blind_0 (i := 3) (q := 6) rfl rfl) ic_1 <|
    V_icmp_le (tat ok_X8_blind_0 (i := 4) (q := 9) rfl rfl) rfl (fun c2 => V_aload_n (tat ok_X8_blind_0 (i := 7) (q := 12) rfl rfl) 0 rfl rfl <|
    V_getR (tat ok_X8_blind_0 (i := 8) (q := 15) rfl rfl) fk_X8_18 rfl rfl <|
    V_getZ (tat ok_X8_blind_0 (i := 9) (q := 18) rfl rfl) fk_X8_106 rfl <|
    V_if_ne (tat ok_X8_blind_0 (i := 10) (q := 21) rfl rfl) rfl (fun c3 => V_aload_n (tat ok_X8_blind_0 (i := 13) (q := 25) rfl rfl) 0 rfl rfl <|
    V_getR (tat ok_X8_blind_0 (i := 14) (q := 28) rfl rfl) fk_X8_63 rfl rfl <|
    V_aload_n (tat ok_X8_blind_0 (i := 15) (q := 29) rfl rfl) 0 rfl rfl <|
    V_getR (tat ok_X8_blind_0 (i := 16) (q := 32) rfl rfl) fk_X8_14 rfl rfl <|
    V_aload_n (tat ok_X8_blind_0 (i := 17) (q := 33) rfl rfl) 0 rfl rfl <|
    V_getR (tat ok_X8_blind_0 (i := 18) (q := 36) rfl rfl) fk_X8_14 rfl rfl <|
    V_getL (tat ok_X8_blind_0 (i := 19) (q := 39) rfl rfl) fk_X8_137 rfl <|
    V_aload_n (tat ok_X8_blind_0 (i := 20) (q := 40) rfl rfl) 0 rfl rfl <|
    V_getR (tat ok_X8_blind_0 (i := 21) (q := 43) rfl rfl) fk_X8_18 rfl rfl <|
    V_getL (tat ok_X8_blind_0 (i := 22) (q := 46) rfl rfl) fk_X8_137 rfl <|
    V_lxor (tat ok_X8_blind_0 (i := 23) (q := 47) rfl rfl) <|
    oP_case (jx (P := oP P) kk (Eq.trans (if_neg c1) (Eq.trans (if_pos c2) (if_neg c3)))) (fun v4 e4 _ => V_cv2v (ct_X7_goBlind I L 1 ((L 1 3) ^^^ (L 2 3)) rfl e4) mo_X7_goBlind (tat ok_X8_blind_0 (i := 24) (q := 50) rfl rfl) ml_X8_226 rfl ⟨by decide, _, rfl, rfl⟩ ⟨(Nat.le_of_ble_eq_true rfl), (Nat.le_of_ble_eq_true rfl)⟩ ⟨(Nat.le_of_ble_eq_true rfl), (Nat.le_of_ble_eq_true rfl)⟩ (Nat.le_of_ble_eq_true rfl) <|
    V_iload_n (tat ok_X8_blind_0 (i := 25) (q := 51) rfl rfl) 1 rfl rfl <|
    V_iconst (tat ok_X8_blind_0 (i := 26) (q := 52) rfl rfl) ic_1 <|
    V_icmp_ne (tat ok_X8_blind_0 (i := 27) (q := 55) rfl rfl) rfl (fun c5 => V_aload_n (tat ok_X8_blind_0 (i := 32) (q := 64) rfl rfl) 0 rfl rfl <|
    V_getR (tat ok_X8_blind_0 (i := 33) (q := 67) rfl rfl) fk_X8_63 rfl rfl <|
    V_getZ (tat ok_X8_blind_0 (i := 34) (q := 70) rfl rfl) fk_X8_195 rfl <|
    V_if_eq (tat ok_X8_blind_0 (i := 35) (q := 73) rfl rfl) rfl (fun c6 => V_bipush (tat ok_X8_blind_1 (i := 0) (q := 85) rfl rfl) bp_m4 <|
    V_X8_blind_85  hr (jx (P := oP P) kk (Eq.trans (if_neg c1) (Eq.trans (if_pos c2) (Eq.trans (if_neg c3) (Eq.trans (ob e4) (Eq.trans (if_neg c5) (if_pos c6)))))))) (fun c6 => V_aload_n (tat ok_X8_blind_0 (i := 36) (q := 74) rfl rfl) 0 rfl rfl <|
    V_getR (tat ok_X8_blind_0 (i := 37) (q := 77) rfl rfl) fk_X8_63 rfl rfl <|
    V_getI (tat ok_X8_blind_0 (i := 38) (q := 80) rfl rfl) fk_X8_229 rfl <|
    V_goto (tat ok_X8_blind_0 (i := 39) (q := 83) rfl rfl) rfl <|
    V_X8_blind_85  hr (jx (P := oP P) kk (Eq.trans (if_neg c1) (Eq.trans (if_pos c2) (Eq.trans (if_neg c3) (Eq.trans (ob e4) (Eq.trans (if_neg c5) (if_neg c6))))))))) (fun c5 => V_aload_n (tat ok_X8_blind_0 (i := 28) (q := 56) rfl rfl) 0 rfl rfl <|
    V_getR (tat ok_X8_blind_0 (i := 29) (q := 59) rfl rfl) fk_X8_63 rfl rfl <|
    V_getI (tat ok_X8_blind_0 (i := 30) (q := 62) rfl rfl) fk_X8_223 rfl <|
    V_iret (tat ok_X8_blind_0 (i := 31) (q := 63) rfl rfl) _ rfl (nar_int _) (hr ((v4 27 4), v4) (jx (P := oP P) kk (Eq.trans (if_neg c1) (Eq.trans (if_pos c2) (Eq.trans (if_neg c3) (Eq.trans (ob e4) (if_pos c5))))))) ⟨(Nat.le_of_ble_eq_true rfl), (Nat.le_of_ble_eq_true rfl)⟩))) (fun c3 => V_bipush (tat ok_X8_blind_0 (i := 11) (q := 23) rfl rfl) bp_m2 <|
    V_iret (tat ok_X8_blind_0 (i := 12) (q := 24) rfl rfl) _ rfl (nar_int _) (hr ((-2), I) (jx (P := oP P) kk (Eq.trans (if_neg c1) (Eq.trans (if_pos c2) (if_pos c3))))) ⟨(Nat.le_of_ble_eq_true rfl), (Nat.le_of_ble_eq_true rfl)⟩)) (fun c2 => V_X8_blind_9  hr (jx (P := oP P) kk (Eq.trans (if_neg c1) (if_neg c2)))))
theorem ct_X8_blind  (I : WI) (L : WL) (a1 : Int32)  {v : (Int32 × WI)} (h : (F_X8_blind I L a1) = some v) : Ct x_X8_blind 6 [.ref 0, .int a1] ly0 I L R0 0 0 (some (.int (p1 v)), ly0, (p2 v), L, R0) :=
  Ct_of_V mo_X8_blind.1 (Nat.le_of_ble_eq_true rfl) (V_X8_blind (P := fun x => x = v)  (fun _ e => by rw [e]) (by rw [h]; exact rfl))
def F_X8_slanted_9 (I : WI) (L : WL) (a1 : Int32) : Option (Int32 × WI × WL) :=
  some ((-1), I, L)
theorem V_X8_slanted_9  {I : WI} {L : WL} {a1 : Int32}  {P : (Int32 × WI × WL) → Prop} {t : Tg} (hr : ∀ v, P v → t = (some (.int (p1 v)), ly0, (p1 (p2 v)), (p2 (p2 v)), R0)) (kk : oP P (F_X8_slanted_9 I L a1)) : V (zM x_X8_slanted 6 0 0 t) 9 [(0, .ref 0), (1, .int a1)] [] ly0 I L R0 0 0 :=
  V_iconst (tat ok_X8_slanted_0 (i := 5) (q := 10) rfl rfl) ic_m1 <|
    V_iret (tat ok_X8_slanted_0 (i := 6) (q := 11) rfl rfl) _ rfl (nar_int _) (hr ((-1), I, L) (jx (P := oP P) kk rfl)) ⟨(Nat.le_of_ble_eq_true rfl), (Nat.le_of_ble_eq_true rfl)⟩
def F_X8_slanted_41 (I : WI) (L : WL) (a1 : Int32) : Option (Int32 × WI × WL) :=
  some ((-2), I, L)
theorem V_X8_slanted_41  {I : WI} {L : WL} {a1 : Int32}  {P : (Int32 × WI × WL) → Prop} {t : Tg} (hr : ∀ v, P v → t = (some (.int (p1 v)), ly0, (p1 (p2 v)), (p2 (p2 v)), R0)) (kk : oP P (F_X8_slanted_41 I L a1)) : V (zM x_X8_slanted 6 0 0 t) 41 [(0, .ref 0), (1, .int a1)] [] ly0 I L R0 0 0 :=
  V_bipush (tat ok_X8_slanted_0 (i := 20) (q := 43) rfl rfl) bp_m2 <|
    V_iret (tat ok_X8_slanted_0 (i := 21) (q := 44) rfl rfl) _ rfl (nar_int _) (hr ((-2), I, L) (jx (P := oP P) kk rfl)) ⟨(Nat.le_of_ble_eq_true rfl), (Nat.le_of_ble_eq_true rfl)⟩
def F_X8_slanted_97 (I : WI) (L : WL) (a1 : Int32) (s0 : Int32) : Option (Int32 × WI × WL) :=
  some (s0, I, L)
theorem V_X8_slanted_97  {I : WI} {L : WL} {a1 : Int32} {s0 : Int32} {P : (Int32 × WI × WL) → Prop} {t : Tg} (hr : ∀ v, P v → t = (some (.int (p1 v)), ly0, (p1 (p2 v)), (p2 (p2 v)), R0)) (kk : oP P (F_X8_slanted_97 I L a1 s0)) : V (zM x_X8_slanted 6 0 0 t) 97 [(0, .ref 0), (1, .int a1)] [.int s0] ly0 I L R0 0 0 :=
  V_iret (tat ok_X8_slanted_1 (i := 6) (q := 98) rfl rfl) _ rfl (nar_int _) (hr (s0, I, L) (jx (P := oP P) kk rfl)) ⟨(Nat.le_of_ble_eq_true rfl), (Nat.le_of_ble_eq_true rfl)⟩
def F_X8_slanted (I : WI) (L : WL) (a1 : Int32) : Option (Int32 × WI × WL) :=
  (if a1 < 0 then (F_X8_slanted_9 I L a1) else (if a1 ≤ 3 then (if (bz (I 2 0)) = 0 then (F_X8_slanted_41 I L a1) else (if ((I 1 1) + (I 1 2)) ≤ 10 then (Option.bind (F_X7_findSlanted I L 1 ((L 1 3) ^^^ (L 2 3))) (fun v5 => (if (bz ((p1 v5) 27 0)) = 0 then (F_X8_slanted_97 (p1 v5) (p2 v5) a1 (-4)) else (F_X8_slanted_97 (p1 v5) (p2 v5) a1 (F_X8_toldOf (p1 v5) a1 (F_X7_acts (p1 v5))))))) else (F_X8_slanted_41 I L a1))) else (F_X8_slanted_9 I L a1)))
theorem V_X8_slanted  {I : WI} {L : WL} {a1 : Int32}  {P : (Int32 × WI × WL) → Prop} {t : Tg} (hr : ∀ v, P v → t = (some (.int (p1 v)), ly0, (p1 (p2 v)), (p2 (p2 v)), R0)) (kk : oP P (F_X8_slanted I L a1)) : V (zM x_X8_slanted 6 0 0 t) 0 [(0, .ref 0), (1, .int a1)] [] ly0 I L R0 0 0 :=
  V_iload_n (tat ok_X8_slanted_0 (i := 0) (q := 1) rfl rfl) 1 rfl rfl <|
    V_if_lt (tat ok_X8_slanted_0 (i := 1) (q := 4) rfl rfl) rfl (fun c1 => V_X8_slanted_9  hr (jx (P := oP P) kk (if_pos c1))) (fun c1 => V_iload_n (tat ok_X8_slanted_0 (i := 2) (q := 5) rfl rfl) 1 rfl rfl <|
    V_iconst (tat ok_X8_slanted_0 (i := 3) (q := 6) rfl rfl) ic_3 <|
    V_icmp_le (tat ok_X8_slanted_0 (i := 4) (q := 9) rfl rfl) rfl (fun c2 => V_aload_n (tat ok_X8_slanted_0 (i := 7) (q := 12) rfl rfl) 0 rfl rfl <|
    V_getR (tat ok_X8_slanted_0 (i := 8) (q := 15) rfl rfl) fk_X8_18 rfl rfl <|
    V_getZ (tat ok_X8_slanted_0 (i := 9) (q := 18) rfl rfl) fk_X8_106 rfl <|
    V_if_eq (tat ok_X8_slanted_0 (i := 10) (q := 21) rfl rfl) rfl (fun c3 => V_X8_slanted_41  hr (jx (P := oP P) kk (Eq.trans (if_neg c1) (Eq.trans (if_pos c2) (if_pos c3))))) (fun c3 => V_aload_n (tat ok_X8_slanted_0 (i := 11) (q := 22) rfl rfl) 0 rfl rfl <|
    V_getR (tat ok_X8_slanted_0 (i := 12) (q := 25) rfl rfl) fk_X8_14 rfl rfl <|
    V_getI (tat ok_X8_slanted_0 (i := 13) (q := 28) rfl rfl) fk_X8_117 rfl <|
    V_aload_n (tat ok_X8_slanted_0 (i := 14) (q := 29) rfl rfl) 0 rfl rfl <|
    V_getR (tat ok_X8_slanted_0 (i := 15) (q := 32) rfl rfl) fk_X8_14 rfl rfl <|
    V_getI (tat ok_X8_slanted_0 (i := 16) (q := 35) rfl rfl) fk_X8_120 rfl <|
    V_iadd (tat ok_X8_slanted_0 (i := 17) (q := 36) rfl rfl) <|
    V_bipush (tat ok_X8_slanted_0 (i := 18) (q := 38) rfl rfl) bp_10 <|
    V_icmp_le (tat ok_X8_slanted_0 (i := 19) (q := 41) rfl rfl) rfl (fun c4 => V_aload_n (tat ok_X8_slanted_0 (i := 22) (q := 45) rfl rfl) 0 rfl rfl <|
    V_getR (tat ok_X8_slanted_0 (i := 23) (q := 48) rfl rfl) fk_X8_63 rfl rfl <|
    V_aload_n (tat ok_X8_slanted_0 (i := 24) (q := 49) rfl rfl) 0 rfl rfl <|
    V_getR (tat ok_X8_slanted_0 (i := 25) (q := 52) rfl rfl) fk_X8_14 rfl rfl <|
    V_aload_n (tat ok_X8_slanted_0 (i := 26) (q := 53) rfl rfl) 0 rfl rfl <|
    V_getR (tat ok_X8_slanted_0 (i := 27) (q := 56) rfl rfl) fk_X8_14 rfl rfl <|
    V_getL (tat ok_X8_slanted_0 (i := 28) (q := 59) rfl rfl) fk_X8_137 rfl <|
    V_aload_n (tat ok_X8_slanted_0 (i := 29) (q := 60) rfl rfl) 0 rfl rfl <|
    V_getR (tat ok_X8_slanted_0 (i := 30) (q := 63) rfl rfl) fk_X8_18 rfl rfl <|
    V_getL (tat ok_X8_slanted_0 (i := 31) (q := 66) rfl rfl) fk_X8_137 rfl <|
    V_lxor (tat ok_X8_slanted_0 (i := 32) (q := 67) rfl rfl) <|
    oP_case (jx (P := oP P) kk (Eq.trans (if_neg c1) (Eq.trans (if_pos c2) (Eq.trans (if_neg c3) (if_pos c4))))) (fun v5 e5 _ => V_cv2v (ct_X7_findSlanted I L 1 ((L 1 3) ^^^ (L 2 3)) rfl e5) mo_X7_findSlanted (tat ok_X8_slanted_0 (i := 33) (q := 70) rfl rfl) ml_X8_231 rfl ⟨by decide, _, rfl, rfl⟩ ⟨(Nat.le_of_ble_eq_true rfl), (Nat.le_of_ble_eq_true rfl)⟩ ⟨(Nat.le_of_ble_eq_true rfl), (Nat.le_of_ble_eq_true rfl)⟩ (Nat.le_of_ble_eq_true rfl) <|
    V_aload_n (tat ok_X8_slanted_0 (i := 34) (q := 71) rfl rfl) 0 rfl rfl <|
    V_getR (tat ok_X8_slanted_0 (i := 35) (q := 74) rfl rfl) fk_X8_63 rfl rfl <|
    V_getZ (tat ok_X8_slanted_0 (i := 36) (q := 77) rfl rfl) fk_X8_195 rfl <|
    V_if_eq (tat ok_X8_slanted_0 (i := 37) (q := 80) rfl rfl) rfl (fun c6 => V_bipush (tat ok_X8_slanted_1 (i := 5) (q := 97) rfl rfl) bp_m4 <|
    V_X8_slanted_97  hr (jx (P := oP P) kk (Eq.trans (if_neg c1) (Eq.trans (if_pos c2) (Eq.trans (if_neg c3) (Eq.trans (if_pos c4) (Eq.trans (ob e5) (if_pos c6)))))))) (fun c6 => V_aload_n (tat ok_X8_slanted_0 (i := 38) (q := 81) rfl rfl) 0 rfl rfl <|
    V_iload_n (tat ok_X8_slanted_0 (i := 39) (q := 82) rfl rfl) 1 rfl rfl <|
    V_aload_n (tat ok_X8_slanted_1 (i := 0) (q := 83) rfl rfl) 0 rfl rfl <|
    V_getR (tat ok_X8_slanted_1 (i := 1) (q := 86) rfl rfl) fk_X8_63 rfl rfl <|
    V_cv0 (ct_X7_acts (p1 v5) (p2 v5)  ) mo_X7_acts (tat ok_X8_slanted_1 (i := 2) (q := 89) rfl rfl) ml_X8_214 rfl ⟨by decide, _, rfl, rfl⟩ ⟨(Nat.le_of_ble_eq_true rfl), (Nat.le_of_ble_eq_true rfl)⟩ ⟨(Nat.le_of_ble_eq_true rfl), (Nat.le_of_ble_eq_true rfl)⟩ (Nat.le_of_ble_eq_true rfl) <|
    V_cv2 (ct_X8_toldOf (p1 v5) (p2 v5) a1 (F_X7_acts (p1 v5)) ) mo_X8_toldOf (tat ok_X8_slanted_1 (i := 3) (q := 92) rfl rfl) ml_X8_217 rfl ⟨by decide, _, rfl, rfl⟩ ⟨(Nat.le_of_ble_eq_true rfl), (Nat.le_of_ble_eq_true rfl)⟩ ⟨(Nat.le_of_ble_eq_true rfl), (Nat.le_of_ble_eq_true rfl)⟩ (Nat.le_of_ble_eq_true rfl) <|
    V_goto (tat ok_X8_slanted_1 (i := 4) (q := 95) rfl rfl) rfl <|
    V_X8_slanted_97  hr (jx (P := oP P) kk (Eq.trans (if_neg c1) (Eq.trans (if_pos c2) (Eq.trans (if_neg c3) (Eq.trans (if_pos c4) (Eq.trans (ob e5) (if_neg c6)))))))))) (fun c4 => V_X8_slanted_41  hr (jx (P := oP P) kk (Eq.trans (if_neg c1) (Eq.trans (if_pos c2) (Eq.trans (if_neg c3) (if_neg c4)))))))) (fun c2 => V_X8_slanted_9  hr (jx (P := oP P) kk (Eq.trans (if_neg c1) (if_neg c2)))))
theorem ct_X8_slanted  (I : WI) (L : WL) (a1 : Int32)  {v : (Int32 × WI × WL)} (h : (F_X8_slanted I L a1) = some v) : Ct x_X8_slanted 6 [.ref 0, .int a1] ly0 I L R0 0 0 (some (.int (p1 v)), ly0, (p1 (p2 v)), (p2 (p2 v)), R0) :=
  Ct_of_V mo_X8_slanted.1 (Nat.le_of_ble_eq_true rfl) (V_X8_slanted (P := fun x => x = v)  (fun _ e => by rw [e]) (by rw [h]; exact rfl))
def F_X8_independentLines_97_3 (I : WI) (L : WL) (a1 : Int32) (a3 : Int32) (a4 : Int32) (a2 : Int32) (a7 : Int32) (s0 : Int64) (s1 : Int64) : Option (Int64 ⊕ (Int64 × Int32)) :=
  some (.inr ((s1 ^^^ s0), (a7 + 1)))
theorem V_X8_independentLines_97_3  {I : WI} {L : WL} {a1 : Int32} {a3 : Int32} {a4 : Int32} {a2 : Int32} {a7 : Int32} {s0 : Int64} {s1 : Int64} {P : (Int64 ⊕ (Int64 × Int32)) → Prop} {t : Tg} (he : ∀ x : Int64, P (.inl x) → V (zM x_X8_independentLines 4 0 0 t) 106 [(0, .ref 0), (1, .int a1), (2, .int a2), (3, .int a3), (4, .int a4), (5, .long x)] [] ly0 I L R0 0 0) (hk : ∀ x : (Int64 × Int32), P (.inr x) → V (zM x_X8_independentLines 4 0 0 t) 40 [(0, .ref 0), (1, .int a1), (2, .int a2), (3, .int a3), (4, .int a4), (5, .long (p1 x)), (7, .int (p2 x))] [] ly0 I L R0 0 0) (kk : oP P (F_X8_independentLines_97_3 I L a1 a3 a4 a2 a7 s0 s1)) : V (zM x_X8_independentLines 4 0 0 t) 97 [(0, .ref 0), (1, .int a1), (2, .int a2), (3, .int a3), (4, .int a4), (7, .int a7)] [.long s0, .long s1] ly0 I L R0 0 0 :=
  V_lxor (tat ok_X8_independentLines_1 (i := 15) (q := 98) rfl rfl) <|
    V_lstore (lv' := [(5, .long (s1 ^^^ s0)), (0, .ref 0), (1, .int a1), (2, .int a2), (3, .int a3), (4, .int a4), (7, .int a7)]) (tat ok_X8_independentLines_1 (i := 16) (q := 100) rfl rfl) (Nat.le_of_ble_eq_true rfl) rfl <|
    V_iinc (v := (a7 + 1)) (lv' := [(7, .int (a7 + 1)), (5, .long (s1 ^^^ s0)), (0, .ref 0), (1, .int a1), (2, .int a2), (3, .int a3), (4, .int a4)]) (tat ok_X8_independentLines_1 (i := 17) (q := 103) rfl rfl) 6 rfl (ia ic_1) (Nat.le_of_ble_eq_true rfl) rfl <|
    V_goto (tat ok_X8_independentLines_1 (i := 18) (q := 106) rfl rfl) rfl <|
    V_pick [2, 3, 4, 5, 6, 1, 0] rfl (hk ((s1 ^^^ s0), (a7 + 1)) (jx (P := oP P) kk rfl))
def F_X8_independentLines_40_3 (I : WI) (L : WL) (a1 : Int32) (a3 : Int32) (a4 : Int32) (a2 : Int32) (a5 : Int64) (a7 : Int32) : Option (Int64 ⊕ (Int64 × Int32)) :=
  (if a2 ≤ a7 then some (.inl a5) else (if 31 ≤ a7 then some (.inl a5) else (if a7 < 0 ∨ 31 ≤ Int32.toNatClampNeg a7 then none else (if a7 < 0 ∨ 31 ≤ Int32.toNatClampNeg a7 then none else (if (lg_cmp (a5 &&& ((L 32 (Int32.toNatClampNeg a7)) &&& (-(L 32 (Int32.toNatClampNeg a7))))) 0) = 0 then (F_X8_independentLines_97_3 I L a1 a3 a4 a2 a7 0 a5) else (if a7 < 0 ∨ 31 ≤ Int32.toNatClampNeg a7 then none else (F_X8_independentLines_97_3 I L a1 a3 a4 a2 a7 (L 32 (Int32.toNatClampNeg a7)) a5)))))))
theorem V_X8_independentLines_40_3  {I : WI} {L : WL} {a1 : Int32} {a3 : Int32} {a4 : Int32} {a2 : Int32} {a5 : Int64} {a7 : Int32} {P : (Int64 ⊕ (Int64 × Int32)) → Prop} {t : Tg} (he : ∀ x : Int64, P (.inl x) → V (zM x_X8_independentLines 4 0 0 t) 106 [(0, .ref 0), (1, .int a1), (2, .int a2), (3, .int a3), (4, .int a4), (5, .long x)] [] ly0 I L R0 0 0) (hk : ∀ x : (Int64 × Int32), P (.inr x) → V (zM x_X8_independentLines 4 0 0 t) 40 [(0, .ref 0), (1, .int a1), (2, .int a2), (3, .int a3), (4, .int a4), (5, .long (p1 x)), (7, .int (p2 x))] [] ly0 I L R0 0 0) (kk : oP P (F_X8_independentLines_40_3 I L a1 a3 a4 a2 a5 a7)) : V (zM x_X8_independentLines 4 0 0 t) 40 [(0, .ref 0), (1, .int a1), (2, .int a2), (3, .int a3), (4, .int a4), (5, .long a5), (7, .int a7)] [] ly0 I L R0 0 0 :=
  V_iload (tat ok_X8_independentLines_0 (i := 23) (q := 42) rfl rfl) 6 rfl <|
    V_iload_n (tat ok_X8_independentLines_0 (i := 24) (q := 43) rfl rfl) 2 rfl rfl <|
    V_icmp_ge (tat ok_X8_independentLines_0 (i := 25) (q := 46) rfl rfl) rfl (fun c2 => V_pick [0, 1, 2, 3, 4, 5] rfl (he a5 (jx (P := oP P) kk (if_pos c2)))) (fun c2 => V_iload (tat ok_X8_independentLines_0 (i := 26) (q := 48) rfl rfl) 6 rfl <|
    V_aload_n (tat ok_X8_independentLines_0 (i := 27) (q := 49) rfl rfl) 0 rfl rfl <|
    V_getR (tat ok_X8_independentLines_0 (i := 28) (q := 52) rfl rfl) fk_X8_77 rfl rfl <|
    V_alen (tat ok_X8_independentLines_0 (i := 29) (q := 53) rfl rfl) rfl ⟨by decide, by decide⟩ nl_31 <|
    V_icmp_ge (tat ok_X8_independentLines_0 (i := 30) (q := 56) rfl rfl) rfl (fun c3 => V_pick [0, 1, 2, 3, 4, 5] rfl (he a5 (jx (P := oP P) kk (Eq.trans (if_neg c2) (if_pos c3))))) (fun c3 => V_aload_n (tat ok_X8_independentLines_0 (i := 31) (q := 57) rfl rfl) 0 rfl rfl <|
    V_getR (tat ok_X8_independentLines_0 (i := 32) (q := 60) rfl rfl) fk_X8_77 rfl rfl <|
    V_iload (tat ok_X8_independentLines_0 (i := 33) (q := 62) rfl rfl) 6 rfl <|
    (if c4 : a7 < 0 ∨ 31 ≤ Int32.toNatClampNeg a7 then ((jx (P := oP P) kk (Eq.trans (if_neg c2) (Eq.trans (if_neg c3) (if_pos c4))))).elim else V_lald (tat ok_X8_independentLines_0 (i := 34) (q := 63) rfl rfl) rfl c4 <|
    V_aload_n (tat ok_X8_independentLines_0 (i := 35) (q := 64) rfl rfl) 0 rfl rfl <|
    V_getR (tat ok_X8_independentLines_0 (i := 36) (q := 67) rfl rfl) fk_X8_77 rfl rfl <|
    V_iload (tat ok_X8_independentLines_0 (i := 37) (q := 69) rfl rfl) 6 rfl <|
    (if c5 : a7 < 0 ∨ 31 ≤ Int32.toNatClampNeg a7 then ((jx (P := oP P) kk (Eq.trans (if_neg c2) (Eq.trans (if_neg c3) (Eq.trans (if_neg c4) (if_pos c5)))))).elim else V_lald (tat ok_X8_independentLines_0 (i := 38) (q := 70) rfl rfl) rfl c5 <|
    V_lneg (tat ok_X8_independentLines_0 (i := 39) (q := 71) rfl rfl) <|
    V_land (tat ok_X8_independentLines_1 (i := 0) (q := 72) rfl rfl) <|
    V_lstore (lv' := [(8, .long ((L 32 (Int32.toNatClampNeg a7)) &&& (-(L 32 (Int32.toNatClampNeg a7))))), (0, .ref 0), (1, .int a1), (2, .int a2), (3, .int a3), (4, .int a4), (5, .long a5), (7, .int a7)]) (tat ok_X8_independentLines_1 (i := 1) (q := 74) rfl rfl) (Nat.le_of_ble_eq_true rfl) rfl <|
    V_lload (tat ok_X8_independentLines_1 (i := 2) (q := 76) rfl rfl) 6 rfl <|
    V_lload (tat ok_X8_independentLines_1 (i := 3) (q := 78) rfl rfl) 6 rfl <|
    V_lload (tat ok_X8_independentLines_1 (i := 4) (q := 80) rfl rfl) 0 rfl <|
    V_land (tat ok_X8_independentLines_1 (i := 5) (q := 81) rfl rfl) <|
    V_lconst (v := 0) (tat ok_X8_independentLines_1 (i := 6) (q := 82) rfl rfl) rfl <|
    V_lcmp (tat ok_X8_independentLines_1 (i := 7) (q := 83) rfl rfl) <|
    V_if_eq (tat ok_X8_independentLines_1 (i := 8) (q := 86) rfl rfl) rfl (fun c6 => V_lconst (v := 0) (tat ok_X8_independentLines_1 (i := 14) (q := 97) rfl rfl) rfl <|
    V_pick [1, 2, 3, 4, 5, 7] rfl (V_X8_independentLines_97_3  he hk (jx (P := oP P) kk (Eq.trans (if_neg c2) (Eq.trans (if_neg c3) (Eq.trans (if_neg c4) (Eq.trans (if_neg c5) (if_pos c6)))))))) (fun c6 => V_aload_n (tat ok_X8_independentLines_1 (i := 9) (q := 87) rfl rfl) 1 rfl rfl <|
    V_getR (tat ok_X8_independentLines_1 (i := 10) (q := 90) rfl rfl) fk_X8_77 rfl rfl <|
    V_iload (tat ok_X8_independentLines_1 (i := 11) (q := 92) rfl rfl) 7 rfl <|
    (if c7 : a7 < 0 ∨ 31 ≤ Int32.toNatClampNeg a7 then ((jx (P := oP P) kk (Eq.trans (if_neg c2) (Eq.trans (if_neg c3) (Eq.trans (if_neg c4) (Eq.trans (if_neg c5) (Eq.trans (if_neg c6) (if_pos c7)))))))).elim else V_lald (tat ok_X8_independentLines_1 (i := 12) (q := 93) rfl rfl) rfl c7 <|
    V_goto (tat ok_X8_independentLines_1 (i := 13) (q := 96) rfl rfl) rfl <|
    V_pick [1, 2, 3, 4, 5, 7] rfl (V_X8_independentLines_97_3  he hk (jx (P := oP P) kk (Eq.trans (if_neg c2) (Eq.trans (if_neg c3) (Eq.trans (if_neg c4) (Eq.trans (if_neg c5) (Eq.trans (if_neg c6) (if_neg c7))))))))))))))
def F_X8_independentLines_133_2 (I : WI) (L : WL) (a1 : Int32) (a3 : Int32) (a4 : Int32) (a2 : Int32) : Option (Int32 × WL) :=
  some (a2, L)
theorem V_X8_independentLines_133_2  {I : WI} {L : WL} {a1 : Int32} {a3 : Int32} {a4 : Int32} {a2 : Int32} {P : (Int32 × WL) → Prop} {t : Tg} (hk : ∀ x : (Int32 × WL), P x → V (zM x_X8_independentLines 4 0 0 t) 12 [(0, .ref 0), (1, .int a1), (2, .int (p1 x)), (3, .int a3), (4, .int (a4 + 1))] [] ly0 I (p2 x) R0 0 0) (kk : oP P (F_X8_independentLines_133_2 I L a1 a3 a4 a2)) : V (zM x_X8_independentLines 4 0 0 t) 133 [(0, .ref 0), (1, .int a1), (2, .int a2), (3, .int a3), (4, .int a4)] [] ly0 I L R0 0 0 :=
  V_iinc (v := (a4 + 1)) (lv' := [(4, .int (a4 + 1)), (0, .ref 0), (1, .int a1), (2, .int a2), (3, .int a3)]) (tat ok_X8_independentLines_1 (i := 34) (q := 136) rfl rfl) 4 rfl (ia ic_1) (Nat.le_of_ble_eq_true rfl) rfl <|
    V_goto (tat ok_X8_independentLines_1 (i := 35) (q := 139) rfl rfl) rfl <|
    V_pick [1, 2, 3, 4, 0] rfl (hk (a2, L) (jx (P := oP P) kk rfl))
def F_X8_independentLines_106_2 (I : WI) (L : WL) (a1 : Int32) (a3 : Int32) (a4 : Int32) (a2 : Int32) (a5 : Int64) : Option (Int32 × WL) :=
  (if (lg_cmp a5 0) = 0 then (F_X8_independentLines_133_2 I L a1 a3 a4 a2) else (if 31 ≤ a2 then (F_X8_independentLines_133_2 I L a1 a3 a4 a2) else (if a2 < 0 ∨ 31 ≤ Int32.toNatClampNeg a2 then none else (F_X8_independentLines_133_2 I (u2 L 32 (Int32.toNatClampNeg a2) a5) a1 a3 a4 (a2 + 1)))))
theorem V_X8_independentLines_106_2  {I : WI} {L : WL} {a1 : Int32} {a3 : Int32} {a4 : Int32} {a2 : Int32} {a5 : Int64} {P : (Int32 × WL) → Prop} {t : Tg} (hk : ∀ x : (Int32 × WL), P x → V (zM x_X8_independentLines 4 0 0 t) 12 [(0, .ref 0), (1, .int a1), (2, .int (p1 x)), (3, .int a3), (4, .int (a4 + 1))] [] ly0 I (p2 x) R0 0 0) (kk : oP P (F_X8_independentLines_106_2 I L a1 a3 a4 a2 a5)) : V (zM x_X8_independentLines 4 0 0 t) 106 [(0, .ref 0), (1, .int a1), (2, .int a2), (3, .int a3), (4, .int a4), (5, .long a5)] [] ly0 I L R0 0 0 :=
  V_lload (tat ok_X8_independentLines_1 (i := 19) (q := 108) rfl rfl) 5 rfl <|
    V_lconst (v := 0) (tat ok_X8_independentLines_1 (i := 20) (q := 109) rfl rfl) rfl <|
    V_lcmp (tat ok_X8_independentLines_1 (i := 21) (q := 110) rfl rfl) <|
    V_if_eq (tat ok_X8_independentLines_1 (i := 22) (q := 113) rfl rfl) rfl (fun c8 => V_pick [0, 1, 2, 3, 4] rfl (V_X8_independentLines_133_2  hk (jx (P := oP P) kk (if_pos c8)))) (fun c8 => V_iload_n (tat ok_X8_independentLines_1 (i := 23) (q := 114) rfl rfl) 2 rfl rfl <|
    V_aload_n (tat ok_X8_independentLines_1 (i := 24) (q := 115) rfl rfl) 0 rfl rfl <|
    V_getR (tat ok_X8_independentLines_1 (i := 25) (q := 118) rfl rfl) fk_X8_77 rfl rfl <|
    V_alen (tat ok_X8_independentLines_1 (i := 26) (q := 119) rfl rfl) rfl ⟨by decide, by decide⟩ nl_31 <|
    V_icmp_ge (tat ok_X8_independentLines_1 (i := 27) (q := 122) rfl rfl) rfl (fun c9 => V_pick [0, 1, 2, 3, 4] rfl (V_X8_independentLines_133_2  hk (jx (P := oP P) kk (Eq.trans (if_neg c8) (if_pos c9))))) (fun c9 => V_aload_n (tat ok_X8_independentLines_1 (i := 28) (q := 123) rfl rfl) 0 rfl rfl <|
    V_getR (tat ok_X8_independentLines_1 (i := 29) (q := 126) rfl rfl) fk_X8_77 rfl rfl <|
    V_iload_n (tat ok_X8_independentLines_1 (i := 30) (q := 127) rfl rfl) 2 rfl rfl <|
    V_lload (tat ok_X8_independentLines_1 (i := 31) (q := 129) rfl rfl) 5 rfl <|
    (if c10 : a2 < 0 ∨ 31 ≤ Int32.toNatClampNeg a2 then ((jx (P := oP P) kk (Eq.trans (if_neg c8) (Eq.trans (if_neg c9) (if_pos c10))))).elim else V_last (tat ok_X8_independentLines_1 (i := 32) (q := 130) rfl rfl) rfl c10 <|
    V_iinc (v := (a2 + 1)) (lv' := [(2, .int (a2 + 1)), (0, .ref 0), (1, .int a1), (3, .int a3), (4, .int a4), (5, .long a5)]) (tat ok_X8_independentLines_1 (i := 33) (q := 133) rfl rfl) 2 rfl (ia ic_1) (Nat.le_of_ble_eq_true rfl) rfl <|
    V_pick [1, 2, 0, 3, 4] rfl (V_X8_independentLines_133_2  hk (jx (P := oP P) kk (Eq.trans (if_neg c8) (Eq.trans (if_neg c9) (if_neg c10))))))))
def F_X8_independentLines_40_2 (I : WI) (L : WL) (a1 : Int32) (a3 : Int32) (a4 : Int32) (a2 : Int32) (a5 : Int64) (a7 : Int32) : Option (Int32 × WL) :=
  (lpp (fun x => (F_X8_independentLines_40_3 I L a1 a3 a4 a2 (p1 x) (p2 x))) 4294967296 (a5, a7)).bind (fun q => (F_X8_independentLines_106_2 I L a1 a3 a4 a2 q))
theorem V_X8_independentLines_40_2  {I : WI} {L : WL} {a1 : Int32} {a3 : Int32} {a4 : Int32} {a2 : Int32} {a5 : Int64} {a7 : Int32} {P : (Int32 × WL) → Prop} {t : Tg} (hb7 : bz a7 = a7) (hk : ∀ x : (Int32 × WL), P x → V (zM x_X8_independentLines 4 0 0 t) 12 [(0, .ref 0), (1, .int a1), (2, .int (p1 x)), (3, .int a3), (4, .int (a4 + 1))] [] ly0 I (p2 x) R0 0 0) (kk : oP P (F_X8_independentLines_40_2 I L a1 a3 a4 a2 a5 a7)) : V (zM x_X8_independentLines 4 0 0 t) 40 [(0, .ref 0), (1, .int a1), (2, .int a2), (3, .int a3), (4, .int a4), (5, .long a5), (7, .int a7)] [] ly0 I L R0 0 0 :=
  V_lpp (fun x => (F_X8_independentLines_40_3 I L a1 a3 a4 a2 (p1 x) (p2 x))) (fun x => V (zM x_X8_independentLines 4 0 0 t) 40 [(0, .ref 0), (1, .int a1), (2, .int a2), (3, .int a3), (4, .int a4), (5, .long (p1 x)), (7, .int (p2 x))] [] ly0 I L R0 0 0) (fun x => oP P ((F_X8_independentLines_106_2 I L a1 a3 a4 a2 x))) (s := (a5, a7)) (fun x e0 => V_X8_independentLines_40_3 (P := Sum.elim (fun x => oP P ((F_X8_independentLines_106_2 I L a1 a3 a4 a2 x))) (fun x => V (zM x_X8_independentLines 4 0 0 t) 40 [(0, .ref 0), (1, .int a1), (2, .int a2), (3, .int a3), (4, .int a4), (5, .long (p1 x)), (7, .int (p2 x))] [] ly0 I L R0 0 0))  (fun x e => V_X8_independentLines_106_2  hk e) (fun _ e => e) e0) (oP_bind (f := fun q => _) kk)
def F_X8_independentLines_25_2 (I : WI) (L : WL) (a1 : Int32) (a3 : Int32) (a4 : Int32) (a2 : Int32) : Option (Int32 × WL) :=
  (F_X8_independentLines_40_2 I L a1 a3 a4 a2 (F_X0_squaresOf I 1 a3 a4) 0)
theorem V_X8_independentLines_25_2  {I : WI} {L : WL} {a1 : Int32} {a3 : Int32} {a4 : Int32} {a2 : Int32} {P : (Int32 × WL) → Prop} {t : Tg} (hk : ∀ x : (Int32 × WL), P x → V (zM x_X8_independentLines 4 0 0 t) 12 [(0, .ref 0), (1, .int a1), (2, .int (p1 x)), (3, .int a3), (4, .int (a4 + 1))] [] ly0 I (p2 x) R0 0 0) (kk : oP P (F_X8_independentLines_25_2 I L a1 a3 a4 a2)) : V (zM x_X8_independentLines 4 0 0 t) 25 [(0, .ref 0), (1, .int a1), (2, .int a2), (3, .int a3), (4, .int a4)] [] ly0 I L R0 0 0 :=
  V_aload_n (tat ok_X8_independentLines_0 (i := 15) (q := 26) rfl rfl) 0 rfl rfl <|
    V_getR (tat ok_X8_independentLines_0 (i := 16) (q := 29) rfl rfl) fk_X8_14 rfl rfl <|
    V_iload_n (tat ok_X8_independentLines_0 (i := 17) (q := 30) rfl rfl) 3 rfl rfl <|
    V_iload (tat ok_X8_independentLines_0 (i := 18) (q := 32) rfl rfl) 4 rfl <|
    V_cv2 (ct_X0_squaresOf I L 1 a3 a4 rfl) mo_X0_squaresOf (tat ok_X8_independentLines_0 (i := 19) (q := 35) rfl rfl) ml_X8_155 rfl ⟨by decide, _, rfl, rfl⟩ ⟨(Nat.le_of_ble_eq_true rfl), (Nat.le_of_ble_eq_true rfl)⟩ ⟨(Nat.le_of_ble_eq_true rfl), (Nat.le_of_ble_eq_true rfl)⟩ (Nat.le_of_ble_eq_true rfl) <|
    V_lstore (lv' := [(5, .long (F_X0_squaresOf I 1 a3 a4)), (0, .ref 0), (1, .int a1), (2, .int a2), (3, .int a3), (4, .int a4)]) (tat ok_X8_independentLines_0 (i := 20) (q := 37) rfl rfl) (Nat.le_of_ble_eq_true rfl) rfl <|
    V_iconst (tat ok_X8_independentLines_0 (i := 21) (q := 38) rfl rfl) ic_0 <|
    V_istore (lv' := [(7, .int 0), (5, .long (F_X0_squaresOf I 1 a3 a4)), (0, .ref 0), (1, .int a1), (2, .int a2), (3, .int a3), (4, .int a4)]) (tat ok_X8_independentLines_0 (i := 22) (q := 40) rfl rfl) (Nat.le_of_ble_eq_true rfl) rfl <|
    V_pick [2, 3, 4, 5, 6, 1, 0] rfl (V_X8_independentLines_40_2 rfl hk (jx (P := oP P) kk rfl))
def F_X8_independentLines_139_1 (I : WI) (L : WL) (a1 : Int32) (a2 : Int32) (a3 : Int32) : Option ((Int32 × WL) ⊕ (Int32 × Int32 × WL)) :=
  some (.inr (a2, (a3 + 1), L))
theorem V_X8_independentLines_139_1  {I : WI} {L : WL} {a1 : Int32} {a2 : Int32} {a3 : Int32} {P : ((Int32 × WL) ⊕ (Int32 × Int32 × WL)) → Prop} {t : Tg} (he : ∀ x : (Int32 × WL), P (.inl x) → V (zM x_X8_independentLines 4 0 0 t) 145 [(0, .ref 0), (1, .int a1), (2, .int (p1 x))] [] ly0 I (p2 x) R0 0 0) (hk : ∀ x : (Int32 × Int32 × WL), P (.inr x) → V (zM x_X8_independentLines 4 0 0 t) 4 [(0, .ref 0), (1, .int a1), (2, .int (p1 x)), (3, .int (p1 (p2 x)))] [] ly0 I (p2 (p2 x)) R0 0 0) (kk : oP P (F_X8_independentLines_139_1 I L a1 a2 a3)) : V (zM x_X8_independentLines 4 0 0 t) 139 [(0, .ref 0), (1, .int a1), (2, .int a2), (3, .int a3)] [] ly0 I L R0 0 0 :=
  V_iinc (v := (a3 + 1)) (lv' := [(3, .int (a3 + 1)), (0, .ref 0), (1, .int a1), (2, .int a2)]) (tat ok_X8_independentLines_1 (i := 36) (q := 142) rfl rfl) 3 rfl (ia ic_1) (Nat.le_of_ble_eq_true rfl) rfl <|
    V_goto (tat ok_X8_independentLines_1 (i := 37) (q := 145) rfl rfl) rfl <|
    V_pick [1, 2, 3, 0] rfl (hk (a2, (a3 + 1), L) (jx (P := oP P) kk rfl))
def F_X8_independentLines_12_1 (I : WI) (L : WL) (a1 : Int32) (a2 : Int32) (a3 : Int32) (a4 : Int32) : Option ((Int32 × WL) ⊕ (Int32 × Int32 × WL)) :=
  (frp0 (fun i x => (F_X8_independentLines_25_2 I (p2 x) a1 a3 i (p1 x))) (F_X0_linesOf I 1 a3) (fu a4 (F_X0_linesOf I 1 a3)) a4 (a2, L)).bind (fun q => (F_X8_independentLines_139_1 I (p2 (p2 q)) a1 (p1 (p2 q)) a3))
theorem V_X8_independentLines_12_1  {I : WI} {L : WL} {a1 : Int32} {a2 : Int32} {a3 : Int32} {a4 : Int32} {P : ((Int32 × WL) ⊕ (Int32 × Int32 × WL)) → Prop} {t : Tg} (hb4 : bz a4 = a4) (he : ∀ x : (Int32 × WL), P (.inl x) → V (zM x_X8_independentLines 4 0 0 t) 145 [(0, .ref 0), (1, .int a1), (2, .int (p1 x))] [] ly0 I (p2 x) R0 0 0) (hk : ∀ x : (Int32 × Int32 × WL), P (.inr x) → V (zM x_X8_independentLines 4 0 0 t) 4 [(0, .ref 0), (1, .int a1), (2, .int (p1 x)), (3, .int (p1 (p2 x)))] [] ly0 I (p2 (p2 x)) R0 0 0) (kk : oP P (F_X8_independentLines_12_1 I L a1 a2 a3 a4)) : V (zM x_X8_independentLines 4 0 0 t) 12 [(0, .ref 0), (1, .int a1), (2, .int a2), (3, .int a3), (4, .int a4)] [] ly0 I L R0 0 0 :=
  V_frp0 (fun i x => (F_X8_independentLines_25_2 I (p2 x) a1 a3 i (p1 x))) (F_X0_linesOf I 1 a3) (fun i x => V (zM x_X8_independentLines 4 0 0 t) 12 [(0, .ref 0), (1, .int a1), (2, .int (p1 x)), (3, .int a3), (4, .int i)] [] ly0 I (p2 x) R0 0 0) (fun i x => oP P ((F_X8_independentLines_139_1 I (p2 x) a1 (p1 x) a3))) (c := a4) (s := (a2, L)) (fun i x kx kb => V_iload (tat ok_X8_independentLines_0 (i := 9) (q := 14) rfl rfl) 4 rfl <|
    V_aload_n (tat ok_X8_independentLines_0 (i := 10) (q := 15) rfl rfl) 0 rfl rfl <|
    V_getR (tat ok_X8_independentLines_0 (i := 11) (q := 18) rfl rfl) fk_X8_14 rfl rfl <|
    V_iload_n (tat ok_X8_independentLines_0 (i := 12) (q := 19) rfl rfl) 3 rfl rfl <|
    V_cv1 (ct_X0_linesOf I (p2 x) 1 a3 rfl) mo_X0_linesOf (tat ok_X8_independentLines_0 (i := 13) (q := 22) rfl rfl) ml_X8_126 rfl ⟨by decide, _, rfl, rfl⟩ ⟨(Nat.le_of_ble_eq_true rfl), (Nat.le_of_ble_eq_true rfl)⟩ ⟨(Nat.le_of_ble_eq_true rfl), (Nat.le_of_ble_eq_true rfl)⟩ (Nat.le_of_ble_eq_true rfl) <|
    V_icmp_ge (tat ok_X8_independentLines_0 (i := 14) (q := 25) rfl rfl) rfl (fun c0 => V_pick [0, 1, 2, 3] rfl (V_X8_independentLines_139_1  he hk (kx c0))) (fun c0 => V_X8_independentLines_25_2 (P := (fun x => (fun i x => V (zM x_X8_independentLines 4 0 0 t) 12 [(0, .ref 0), (1, .int a1), (2, .int (p1 x)), (3, .int a3), (4, .int i)] [] ly0 I (p2 x) R0 0 0) (i + 1) x))  (fun _ e => e) (kb c0))) (oP_bind (f := fun q => _) kk)
def F_X8_independentLines_4_1 (I : WI) (L : WL) (a1 : Int32) (a2 : Int32) (a3 : Int32) : Option ((Int32 × WL) ⊕ (Int32 × Int32 × WL)) :=
  (if a1 < a3 then some (.inl (a2, L)) else (F_X8_independentLines_12_1 I L a1 a2 a3 0))
theorem V_X8_independentLines_4_1  {I : WI} {L : WL} {a1 : Int32} {a2 : Int32} {a3 : Int32} {P : ((Int32 × WL) ⊕ (Int32 × Int32 × WL)) → Prop} {t : Tg} (he : ∀ x : (Int32 × WL), P (.inl x) → V (zM x_X8_independentLines 4 0 0 t) 145 [(0, .ref 0), (1, .int a1), (2, .int (p1 x))] [] ly0 I (p2 x) R0 0 0) (hk : ∀ x : (Int32 × Int32 × WL), P (.inr x) → V (zM x_X8_independentLines 4 0 0 t) 4 [(0, .ref 0), (1, .int a1), (2, .int (p1 x)), (3, .int (p1 (p2 x)))] [] ly0 I (p2 (p2 x)) R0 0 0) (kk : oP P (F_X8_independentLines_4_1 I L a1 a2 a3)) : V (zM x_X8_independentLines 4 0 0 t) 4 [(0, .ref 0), (1, .int a1), (2, .int a2), (3, .int a3)] [] ly0 I L R0 0 0 :=
  V_iload_n (tat ok_X8_independentLines_0 (i := 4) (q := 5) rfl rfl) 3 rfl rfl <|
    V_iload_n (tat ok_X8_independentLines_0 (i := 5) (q := 6) rfl rfl) 1 rfl rfl <|
    V_icmp_gt (tat ok_X8_independentLines_0 (i := 6) (q := 9) rfl rfl) rfl (fun c1 => V_pick [0, 1, 2] rfl (he (a2, L) (jx (P := oP P) kk (if_pos c1)))) (fun c1 => V_iconst (tat ok_X8_independentLines_0 (i := 7) (q := 10) rfl rfl) ic_0 <|
    V_istore (lv' := [(4, .int 0), (0, .ref 0), (1, .int a1), (2, .int a2), (3, .int a3)]) (tat ok_X8_independentLines_0 (i := 8) (q := 12) rfl rfl) (Nat.le_of_ble_eq_true rfl) rfl <|
    V_pick [1, 2, 3, 4, 0] rfl (V_X8_independentLines_12_1 rfl he hk (jx (P := oP P) kk (if_neg c1))))
