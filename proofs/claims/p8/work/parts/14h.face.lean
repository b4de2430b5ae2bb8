theorem ct_X8_isLane  (I : WI) (L : WL) (a0 : Int32)  : Ct x_X8_isLane 1 [.int a0] ly0 I L R0 0 0 (some (.int (F_X8_isLane a0)), ly0, I, L, R0) :=
  Ct_of_V mo_X8_isLane.1 (Nat.le_of_ble_eq_true rfl) (V_X8_isLane (P := fun x => x = (F_X8_isLane a0))  (fun _ e => by rw [e]) rfl)
def F_X8_sheet_28 (I : WI) (a1 : Int32) (a2 : Int32) (a3 : Int32) : Option (Int32 × WI) :=
  some ((-1), I)
theorem V_X8_sheet_28  {I : WI} {L : WL} {a1 : Int32} {a2 : Int32} {a3 : Int32}  {P : (Int32 × WI) → Prop} {t : Tg} (hr : ∀ v, P v → t = (some (.int (p1 v)), ly0, (p2 v), L, R0)) (kk : oP P (F_X8_sheet_28 I a1 a2 a3)) : V (zM x_X8_sheet 2 0 0 t) 28 [(0, .ref 0), (1, .int a1), (2, .int a2), (3, .int a3)] [] ly0 I L R0 0 0 :=
  V_iconst (tat ok_X8_sheet_0 (i := 13) (q := 29) rfl rfl) ic_m1 <|
    V_iret (tat ok_X8_sheet_0 (i := 14) (q := 30) rfl rfl) _ rfl (nar_int _) (hr ((-1), I) (jx (P := oP P) kk rfl)) ⟨(Nat.le_of_ble_eq_true rfl), (Nat.le_of_ble_eq_true rfl)⟩
def F_X8_sheet (I : WI) (a1 : Int32) (a2 : Int32) (a3 : Int32) : Option (Int32 × WI) :=
  (if ¬ (a1 < 0 ∨ 4 ≤ Int32.toNatClampNeg a1) then (if (F_X8_isLane a2) = 0 then (F_X8_sheet_28 I a1 a2 a3) else (if a3 ≤ 40 then (if 0 ≤ a3 then (Option.bind (F_X3_renew I (sid a1) a2 a3) (fun v5 => some (1, v5))) else some ((-14), I)) else (F_X8_sheet_28 I a1 a2 a3))) else (F_X8_sheet_28 I a1 a2 a3))
theorem V_X8_sheet  {I : WI} {L : WL} {a1 : Int32} {a2 : Int32} {a3 : Int32}  {P : (Int32 × WI) → Prop} {t : Tg} (hr : ∀ v, P v → t = (some (.int (p1 v)), ly0, (p2 v), L, R0)) (kk : oP P (F_X8_sheet I a1 a2 a3)) : V (zM x_X8_sheet 2 0 0 t) 0 [(0, .ref 0), (1, .int a1), (2, .int a2), (3, .int a3)] [] ly0 I L R0 0 0 :=
  V_aload_n (tat ok_X8_sheet_0 (i := 0) (q := 1) rfl rfl) 0 rfl rfl <|
    V_getR (tat ok_X8_sheet_0 (i := 1) (q := 4) rfl rfl) fk_X8_56 rfl rfl <|
    V_iload_n (tat ok_X8_sheet_0 (i := 2) (q := 5) rfl rfl) 1 rfl rfl <|
    (if c1 : ¬ (a1 < 0 ∨ 4 ≤ Int32.toNatClampNeg a1) then V_cv1 (ct_at1 I L a1 c1) mo_X4_at (tat ok_X8_sheet_0 (i := 3) (q := 8) rfl rfl) ml_X8_286 rfl ⟨by decide, _, rfl, rfl⟩ ⟨(Nat.le_of_ble_eq_true rfl), (Nat.le_of_ble_eq_true rfl)⟩ ⟨(Nat.le_of_ble_eq_true rfl), (Nat.le_of_ble_eq_true rfl)⟩ (Nat.le_of_ble_eq_true rfl) <|
    V_astore (lv' := [(4, .ref (sid a1)), (0, .ref 0), (1, .int a1), (2, .int a2), (3, .int a3)]) (tat ok_X8_sheet_0 (i := 4) (q := 10) rfl rfl) (isX3_lt (isX3_sid c1)) (Nat.le_of_ble_eq_true rfl) rfl <|
    V_aload (tat ok_X8_sheet_0 (i := 5) (q := 12) rfl rfl) 0 rfl <|
    V_ifnull (tat ok_X8_sheet_0 (i := 6) (q := 15) rfl rfl) (isX3_lt (isX3_sid c1)) <|
    V_iload_n (tat ok_X8_sheet_0 (i := 7) (q := 16) rfl rfl) 3 rfl rfl <|
    V_cs1 (ct_X8_isLane I L a2 ) mo_X8_isLane (tat ok_X8_sheet_0 (i := 8) (q := 19) rfl rfl) ml_X8_290 ⟨(Nat.le_of_ble_eq_true rfl), (Nat.le_of_ble_eq_true rfl)⟩ ⟨(Nat.le_of_ble_eq_true rfl), (Nat.le_of_ble_eq_true rfl)⟩ (Nat.le_of_ble_eq_true rfl) <|
    V_if_eq (tat ok_X8_sheet_0 (i := 9) (q := 22) rfl rfl) rfl (fun c2 => V_pick [1, 2, 3, 4] rfl (V_X8_sheet_28  hr (jx (P := oP P) kk (Eq.trans (if_pos c1) (if_pos c2))))) (fun c2 => V_iload_n (tat ok_X8_sheet_0 (i := 10) (q := 23) rfl rfl) 4 rfl rfl <|
    V_bipush (tat ok_X8_sheet_0 (i := 11) (q := 25) rfl rfl) bp_40 <|
    V_icmp_le (tat ok_X8_sheet_0 (i := 12) (q := 28) rfl rfl) rfl (fun c3 => V_iload_n (tat ok_X8_sheet_0 (i := 15) (q := 31) rfl rfl) 4 rfl rfl <|
    V_if_ge (tat ok_X8_sheet_0 (i := 16) (q := 34) rfl rfl) rfl (fun c4 => V_aload (tat ok_X8_sheet_0 (i := 19) (q := 39) rfl rfl) 0 rfl <|
    V_iload_n (tat ok_X8_sheet_0 (i := 20) (q := 40) rfl rfl) 3 rfl rfl <|
    V_iload_n (tat ok_X8_sheet_0 (i := 21) (q := 41) rfl rfl) 4 rfl rfl <|
    oP_case (jx (P := oP P) kk (Eq.trans (if_pos c1) (Eq.trans (if_neg c2) (Eq.trans (if_pos c3) (if_pos c4))))) (fun v5 e5 _ => V_cv2v (ct_X3_renew I L (sid a1) a2 a3 (isX3_sid c1) e5) mo_X3_renew (tat ok_X8_sheet_0 (i := 22) (q := 44) rfl rfl) ml_X8_296 (isX3_sid c1).1 ⟨by decide, _, rfl, rfl⟩ ⟨(Nat.le_of_ble_eq_true rfl), (Nat.le_of_ble_eq_true rfl)⟩ ⟨(Nat.le_of_ble_eq_true rfl), (Nat.le_of_ble_eq_true rfl)⟩ (Nat.le_of_ble_eq_true rfl) <|
    V_iconst (tat ok_X8_sheet_0 (i := 23) (q := 45) rfl rfl) ic_1 <|
    V_iret (tat ok_X8_sheet_0 (i := 24) (q := 46) rfl rfl) _ rfl (nar_int _) (hr (1, v5) (jx (P := oP P) kk (Eq.trans (if_pos c1) (Eq.trans (if_neg c2) (Eq.trans (if_pos c3) (Eq.trans (if_pos c4) (ob e5))))))) ⟨(Nat.le_of_ble_eq_true rfl), (Nat.le_of_ble_eq_true rfl)⟩)) (fun c4 => V_bipush (tat ok_X8_sheet_0 (i := 17) (q := 36) rfl rfl) bp_m14 <|
    V_iret (tat ok_X8_sheet_0 (i := 18) (q := 37) rfl rfl) _ rfl (nar_int _) (hr ((-14), I) (jx (P := oP P) kk (Eq.trans (if_pos c1) (Eq.trans (if_neg c2) (Eq.trans (if_pos c3) (if_neg c4)))))) ⟨(Nat.le_of_ble_eq_true rfl), (Nat.le_of_ble_eq_true rfl)⟩)) (fun c3 => V_pick [1, 2, 3, 4] rfl (V_X8_sheet_28  hr (jx (P := oP P) kk (Eq.trans (if_pos c1) (Eq.trans (if_neg c2) (if_neg c3))))))) else V_cv1 (ct_atN I L a1 c1) mo_X4_at (tat ok_X8_sheet_0 (i := 3) (q := 8) rfl rfl) ml_X8_286 rfl ⟨by decide, _, rfl, rfl⟩ ⟨(Nat.le_of_ble_eq_true rfl), (Nat.le_of_ble_eq_true rfl)⟩ ⟨(Nat.le_of_ble_eq_true rfl), (Nat.le_of_ble_eq_true rfl)⟩ (Nat.le_of_ble_eq_true rfl) <|
    V_astoreN (lv' := [(4, .null), (0, .ref 0), (1, .int a1), (2, .int a2), (3, .int a3)]) (tat ok_X8_sheet_0 (i := 4) (q := 10) rfl rfl) (Nat.le_of_ble_eq_true rfl) rfl <|
    V_aloadN (tat ok_X8_sheet_0 (i := 5) (q := 12) rfl rfl) 0 rfl <|
    V_ifnullN (tat ok_X8_sheet_0 (i := 6) (q := 15) rfl rfl) rfl <|
    V_pick [1, 2, 3, 4] rfl (V_X8_sheet_28  hr (jx (P := oP P) kk (if_neg c1))))
theorem ct_X8_sheet  (I : WI) (L : WL) (a1 : Int32) (a2 : Int32) (a3 : Int32)  {v : (Int32 × WI)} (h : (F_X8_sheet I a1 a2 a3) = some v) : Ct x_X8_sheet 2 [.ref 0, .int a1, .int a2, .int a3] ly0 I L R0 0 0 (some (.int (p1 v)), ly0, (p2 v), L, R0) :=
  Ct_of_V mo_X8_sheet.1 (Nat.le_of_ble_eq_true rfl) (V_X8_sheet (P := fun x => x = v)  (fun _ e => by rw [e]) (by rw [h]; exact rfl))
def F_X8_lay_44 (I : WI) (a1 : Int32) (a2 : Int32) (a3 : Int32) (s0 : Int32) : Option (Int32 × WI) :=
  some (s0, I)
theorem V_X8_lay_44  {I : WI} {L : WL} {a1 : Int32} {a2 : Int32} {a3 : Int32} {s0 : Int32} {P : (Int32 × WI) → Prop} {t : Tg} (hr : ∀ v, P v → t = (some (.int (p1 v)), ly0, (p2 v), L, R0)) (kk : oP P (F_X8_lay_44 I a1 a2 a3 s0)) : V (zM x_X8_lay 2 0 0 t) 44 [(0, .ref 0), (1, .int a1), (2, .int a2), (3, .int a3)] [.int s0] ly0 I L R0 0 0 :=
  V_iret (tat ok_X8_lay_0 (i := 22) (q := 45) rfl rfl) _ rfl (nar_int _) (hr (s0, I) (jx (P := oP P) kk rfl)) ⟨(Nat.le_of_ble_eq_true rfl), (Nat.le_of_ble_eq_true rfl)⟩
def F_X8_lay (I : WI) (a1 : Int32) (a2 : Int32) (a3 : Int32) : Option (Int32 × WI) :=
  (if ¬ (a1 < 0 ∨ 4 ≤ Int32.toNatClampNeg a1) then (if (F_X3_isNothing I (sid a1)) = 0 then (Option.bind (F_X3_put I (sid a1) a2 a3) (fun v3 => (if (p1 v3) = 0 then (F_X8_lay_44 (p2 v3) a1 a2 a3 (-12)) else (F_X8_lay_44 (p2 v3) a1 a2 a3 1)))) else some ((-11), I)) else some ((-1), I))
theorem V_X8_lay  {I : WI} {L : WL} {a1 : Int32} {a2 : Int32} {a3 : Int32}  {P : (Int32 × WI) → Prop} {t : Tg} (hr : ∀ v, P v → t = (some (.int (p1 v)), ly0, (p2 v), L, R0)) (kk : oP P (F_X8_lay I a1 a2 a3)) : V (zM x_X8_lay 2 0 0 t) 0 [(0, .ref 0), (1, .int a1), (2, .int a2), (3, .int a3)] [] ly0 I L R0 0 0 :=
  V_aload_n (tat ok_X8_lay_0 (i := 0) (q := 1) rfl rfl) 0 rfl rfl <|
    V_getR (tat ok_X8_lay_0 (i := 1) (q := 4) rfl rfl) fk_X8_56 rfl rfl <|
    V_iload_n (tat ok_X8_lay_0 (i := 2) (q := 5) rfl rfl) 1 rfl rfl <|
    (if c1 : ¬ (a1 < 0 ∨ 4 ≤ Int32.toNatClampNeg a1) then V_cv1 (ct_at1 I L a1 c1) mo_X4_at (tat ok_X8_lay_0 (i := 3) (q := 8) rfl rfl) ml_X8_286 rfl ⟨by decide, _, rfl, rfl⟩ ⟨(Nat.le_of_ble_eq_true rfl), (Nat.le_of_ble_eq_true rfl)⟩ ⟨(Nat.le_of_ble_eq_true rfl), (Nat.le_of_ble_eq_true rfl)⟩ (Nat.le_of_ble_eq_true rfl) <|
    V_astore (lv' := [(4, .ref (sid a1)), (0, .ref 0), (1, .int a1), (2, .int a2), (3, .int a3)]) (tat ok_X8_lay_0 (i := 4) (q := 10) rfl rfl) (isX3_lt (isX3_sid c1)) (Nat.le_of_ble_eq_true rfl) rfl <|
    V_aload (tat ok_X8_lay_0 (i := 5) (q := 12) rfl rfl) 0 rfl <|
    V_ifnonnull (tat ok_X8_lay_0 (i := 6) (q := 15) rfl rfl) (isX3_lt (isX3_sid c1)) rfl <|
    V_aload (tat ok_X8_lay_0 (i := 9) (q := 19) rfl rfl) 0 rfl <|
    V_cv0 (ct_X3_isNothing I L (sid a1) (isX3_sid c1)) mo_X3_isNothing (tat ok_X8_lay_0 (i := 10) (q := 22) rfl rfl) ml_X8_300 (isX3_sid c1).1 ⟨by decide, _, rfl, rfl⟩ ⟨(Nat.le_of_ble_eq_true rfl), (Nat.le_of_ble_eq_true rfl)⟩ ⟨(Nat.le_of_ble_eq_true rfl), (Nat.le_of_ble_eq_true rfl)⟩ (Nat.le_of_ble_eq_true rfl) <|
    V_if_eq (tat ok_X8_lay_0 (i := 11) (q := 25) rfl rfl) rfl (fun c2 => V_aload (tat ok_X8_lay_0 (i := 14) (q := 30) rfl rfl) 0 rfl <|
    V_iload_n (tat ok_X8_lay_0 (i := 15) (q := 31) rfl rfl) 3 rfl rfl <|
    V_iload_n (tat ok_X8_lay_0 (i := 16) (q := 32) rfl rfl) 4 rfl rfl <|
    oP_case (jx (P := oP P) kk (Eq.trans (if_pos c1) (if_pos c2))) (fun v3 e3 _ => V_cv2 (ct_X3_put I L (sid a1) a2 a3 (isX3_sid c1) e3) mo_X3_put (tat ok_X8_lay_0 (i := 17) (q := 35) rfl rfl) ml_X8_304 (isX3_sid c1).1 ⟨by decide, _, rfl, rfl⟩ ⟨(Nat.le_of_ble_eq_true rfl), (Nat.le_of_ble_eq_true rfl)⟩ ⟨(Nat.le_of_ble_eq_true rfl), (Nat.le_of_ble_eq_true rfl)⟩ (Nat.le_of_ble_eq_true rfl) <|
    V_if_eq (tat ok_X8_lay_0 (i := 18) (q := 38) rfl rfl) rfl (fun c4 => V_bipush (tat ok_X8_lay_0 (i := 21) (q := 44) rfl rfl) bp_m12 <|
    V_pick [1, 2, 3, 4] rfl (V_X8_lay_44  hr (jx (P := oP P) kk (Eq.trans (if_pos c1) (Eq.trans (if_pos c2) (Eq.trans (ob e3) (if_pos c4))))))) (fun c4 => V_iconst (tat ok_X8_lay_0 (i := 19) (q := 39) rfl rfl) ic_1 <|
    V_goto (tat ok_X8_lay_0 (i := 20) (q := 42) rfl rfl) rfl <|
    V_pick [1, 2, 3, 4] rfl (V_X8_lay_44  hr (jx (P := oP P) kk (Eq.trans (if_pos c1) (Eq.trans (if_pos c2) (Eq.trans (ob e3) (if_neg c4))))))))) (fun c2 => V_bipush (tat ok_X8_lay_0 (i := 12) (q := 27) rfl rfl) bp_m11 <|
    V_iret (tat ok_X8_lay_0 (i := 13) (q := 28) rfl rfl) _ rfl (nar_int _) (hr ((-11), I) (jx (P := oP P) kk (Eq.trans (if_pos c1) (if_neg c2)))) ⟨(Nat.le_of_ble_eq_true rfl), (Nat.le_of_ble_eq_true rfl)⟩) else V_cv1 (ct_atN I L a1 c1) mo_X4_at (tat ok_X8_lay_0 (i := 3) (q := 8) rfl rfl) ml_X8_286 rfl ⟨by decide, _, rfl, rfl⟩ ⟨(Nat.le_of_ble_eq_true rfl), (Nat.le_of_ble_eq_true rfl)⟩ ⟨(Nat.le_of_ble_eq_true rfl), (Nat.le_of_ble_eq_true rfl)⟩ (Nat.le_of_ble_eq_true rfl) <|
    V_astoreN (lv' := [(4, .null), (0, .ref 0), (1, .int a1), (2, .int a2), (3, .int a3)]) (tat ok_X8_lay_0 (i := 4) (q := 10) rfl rfl) (Nat.le_of_ble_eq_true rfl) rfl <|
    V_aloadN (tat ok_X8_lay_0 (i := 5) (q := 12) rfl rfl) 0 rfl <|
    V_ifnonnullN (tat ok_X8_lay_0 (i := 6) (q := 15) rfl rfl) <|
    V_iconst (tat ok_X8_lay_0 (i := 7) (q := 16) rfl rfl) ic_m1 <|
    V_iret (tat ok_X8_lay_0 (i := 8) (q := 17) rfl rfl) _ rfl (nar_int _) (hr ((-1), I) (jx (P := oP P) kk (if_neg c1))) ⟨(Nat.le_of_ble_eq_true rfl), (Nat.le_of_ble_eq_true rfl)⟩)
theorem ct_X8_lay  (I : WI) (L : WL) (a1 : Int32) (a2 : Int32) (a3 : Int32)  {v : (Int32 × WI)} (h : (F_X8_lay I a1 a2 a3) = some v) : Ct x_X8_lay 2 [.ref 0, .int a1, .int a2, .int a3] ly0 I L R0 0 0 (some (.int (p1 v)), ly0, (p2 v), L, R0) :=
  Ct_of_V mo_X8_lay.1 (Nat.le_of_ble_eq_true rfl) (V_X8_lay (P := fun x => x = v)  (fun _ e => by rw [e]) (by rw [h]; exact rfl))
def F_X8_read_34 (I : WI) (L : WL) (a1 : Int32) (a2 : Int32) (a3 : Int32) (a4 : Int32) : (Int32 × WI × WL) :=
  ((-1), I, L)
theorem V_X8_read_34  {I : WI} {L : WL} {a1 : Int32} {a2 : Int32} {a3 : Int32} {a4 : Int32}  {P : (Int32 × WI × WL) → Prop} {t : Tg} (hr : ∀ v, P v → t = (some (.int (p1 v)), ly0, (p1 (p2 v)), (p2 (p2 v)), R0)) (kk : P (F_X8_read_34 I L a1 a2 a3 a4)) : V (zM x_X8_read 4 0 0 t) 34 [(0, .ref 0), (1, .int a1), (2, .int a2), (3, .int a3), (4, .int a4)] [] ly0 I L R0 0 0 :=
  V_iconst (tat ok_X8_read_0 (i := 15) (q := 35) rfl rfl) ic_m1 <|
    V_iret (tat ok_X8_read_0 (i := 16) (q := 36) rfl rfl) _ rfl (nar_int _) (hr ((-1), I, L) (jx (P := P) kk rfl)) ⟨(Nat.le_of_ble_eq_true rfl), (Nat.le_of_ble_eq_true rfl)⟩
def F_X8_read_85_1 (I : WI) (L : WL) (a1 : Int32) (a2 : Int32) (a3 : Int32) (a4 : Int32) (r5 : Nat) (a6 : Int32) (a7 : Int32) (a8 : Int32) : ((Int32 × WI × WL) ⊕ Unit) :=
  (if (F_X0_hasLine I 1 (F_X3_cell I r5 (a3 + (2 * a8))) (F_X3_cell I r5 ((a3 + (2 * a8)) + 1))) = 0 then .inl (((-20) - a8), I, L) else .inr ())
theorem V_X8_read_85_1  {I : WI} {L : WL} {a1 : Int32} {a2 : Int32} {a3 : Int32} {a4 : Int32} {r5 : Nat} {a6 : Int32} {a7 : Int32} {a8 : Int32}  {P : ((Int32 × WI × WL) ⊕ Unit) → Prop} {t : Tg} (hr5 : isX3 r5) (hr : ∀ v, P (.inl v) → t = (some (.int (p1 v)), ly0, (p1 (p2 v)), (p2 (p2 v)), R0)) (hk : ∀ x : Unit, P (.inr x) → V (zM x_X8_read 4 0 0 t) 78 [(0, .ref 0), (1, .int a1), (2, .int a2), (3, .int a3), (4, .int a4), (5, .ref r5), (6, .int a6), (7, .int a7), (8, .int (a8 + 1))] [] ly0 I L R0 0 0) (kk : P (F_X8_read_85_1 I L a1 a2 a3 a4 r5 a6 a7 a8)) : V (zM x_X8_read 4 0 0 t) 85 [(0, .ref 0), (1, .int a1), (2, .int a2), (3, .int a3), (4, .int a4), (5, .ref r5), (6, .int a6), (7, .int a7), (8, .int a8)] [] ly0 I L R0 0 0 :=
  V_aload_n (tat ok_X8_read_1 (i := 0) (q := 86) rfl rfl) 0 rfl rfl <|
    V_getR (tat ok_X8_read_1 (i := 1) (q := 89) rfl rfl) fk_X8_14 rfl rfl <|
    V_aload (tat ok_X8_read_1 (i := 2) (q := 91) rfl rfl) 5 rfl <|
    V_iload_n (tat ok_X8_read_1 (i := 3) (q := 92) rfl rfl) 3 rfl rfl <|
    V_iconst (tat ok_X8_read_1 (i := 4) (q := 93) rfl rfl) ic_2 <|
    V_iload (tat ok_X8_read_1 (i := 5) (q := 95) rfl rfl) 8 rfl <|
    V_imul (tat ok_X8_read_1 (i := 6) (q := 96) rfl rfl) <|
    V_iadd (tat ok_X8_read_1 (i := 7) (q := 97) rfl rfl) <|
    V_cv1 (ct_X3_cell I L r5 (a3 + (2 * a8)) hr5) mo_X3_cell (tat ok_X8_read_1 (i := 8) (q := 100) rfl rfl) ml_X8_316 hr5.1 ⟨by decide, _, rfl, rfl⟩ ⟨(Nat.le_of_ble_eq_true rfl), (Nat.le_of_ble_eq_true rfl)⟩ ⟨(Nat.le_of_ble_eq_true rfl), (Nat.le_of_ble_eq_true rfl)⟩ (Nat.le_of_ble_eq_true rfl) <|
    V_aload (tat ok_X8_read_1 (i := 9) (q := 102) rfl rfl) 5 rfl <|
    V_iload_n (tat ok_X8_read_1 (i := 10) (q := 103) rfl rfl) 3 rfl rfl <|
    V_iconst (tat ok_X8_read_1 (i := 11) (q := 104) rfl rfl) ic_2 <|
    V_iload (tat ok_X8_read_1 (i := 12) (q := 106) rfl rfl) 8 rfl <|
    V_imul (tat ok_X8_read_1 (i := 13) (q := 107) rfl rfl) <|
    V_iadd (tat ok_X8_read_1 (i := 14) (q := 108) rfl rfl) <|
    V_iconst (tat ok_X8_read_1 (i := 15) (q := 109) rfl rfl) ic_1 <|
    V_iadd (tat ok_X8_read_1 (i := 16) (q := 110) rfl rfl) <|
    V_cv1 (ct_X3_cell I L r5 ((a3 + (2 * a8)) + 1) hr5) mo_X3_cell (tat ok_X8_read_1 (i := 17) (q := 113) rfl rfl) ml_X8_316 hr5.1 ⟨by decide, _, rfl, rfl⟩ ⟨(Nat.le_of_ble_eq_true rfl), (Nat.le_of_ble_eq_true rfl)⟩ ⟨(Nat.le_of_ble_eq_true rfl), (Nat.le_of_ble_eq_true rfl)⟩ (Nat.le_of_ble_eq_true rfl) <|
    V_cv2 (ct_X0_hasLine I L 1 (F_X3_cell I r5 (a3 + (2 * a8))) (F_X3_cell I r5 ((a3 + (2 * a8)) + 1)) rfl) mo_X0_hasLine (tat ok_X8_read_1 (i := 18) (q := 116) rfl rfl) ml_X8_152 rfl ⟨by decide, _, rfl, rfl⟩ ⟨(Nat.le_of_ble_eq_true rfl), (Nat.le_of_ble_eq_true rfl)⟩ ⟨(Nat.le_of_ble_eq_true rfl), (Nat.le_of_ble_eq_true rfl)⟩ (Nat.le_of_ble_eq_true rfl) <|
    V_if_ne (tat ok_X8_read_1 (i := 19) (q := 119) rfl rfl) rfl (fun c7 => V_iinc (v := (a8 + 1)) (lv' := [(8, .int (a8 + 1)), (0, .ref 0), (1, .int a1), (2, .int a2), (3, .int a3), (4, .int a4), (5, .ref r5), (6, .int a6), (7, .int a7)]) (tat ok_X8_read_1 (i := 24) (q := 128) rfl rfl) 8 rfl (ia ic_1) (Nat.le_of_ble_eq_true rfl) rfl <|
    V_goto (tat ok_X8_read_1 (i := 25) (q := 131) rfl rfl) rfl <|
    V_pick [1, 2, 3, 4, 5, 6, 7, 8, 0] rfl (hk () (jx (P := P) kk (if_neg c7)))) (fun c7 => V_bipush (tat ok_X8_read_1 (i := 20) (q := 121) rfl rfl) bp_m20 <|
    V_iload (tat ok_X8_read_1 (i := 21) (q := 123) rfl rfl) 8 rfl <|
    V_isub (tat ok_X8_read_1 (i := 22) (q := 124) rfl rfl) <|
    V_iret (tat ok_X8_read_1 (i := 23) (q := 125) rfl rfl) _ rfl (nar_int _) (hr (((-20) - a8), I, L) (jx (P := P) kk (if_pos c7))) ⟨(Nat.le_of_ble_eq_true rfl), (Nat.le_of_ble_eq_true rfl)⟩)
def F_X8_read_141_2 (I : WI) (L : WL) (a1 : Int32) (a2 : Int32) (a3 : Int32) (a4 : Int32) (r5 : Nat) (a6 : Int32) (a7 : Int32) (a8 : Int32) : WL :=
  (u2 L 1 3 ((L 1 3) ^^^ (F_X0_squaresOf I 1 (F_X3_cell I r5 (a3 + (2 * a8))) (F_X3_cell I r5 ((a3 + (2 * a8)) + 1)))))
theorem V_X8_read_141_2  {I : WI} {L : WL} {a1 : Int32} {a2 : Int32} {a3 : Int32} {a4 : Int32} {r5 : Nat} {a6 : Int32} {a7 : Int32} {a8 : Int32}  {P : WL → Prop} {t : Tg} (hr5 : isX3 r5) (hk : ∀ x : WL, P x → V (zM x_X8_read 4 0 0 t) 134 [(0, .ref 0), (1, .int a1), (2, .int a2), (3, .int a3), (4, .int a4), (5, .ref r5), (6, .int a6), (7, .int a7), (8, .int (a8 + 1))] [] ly0 I x R0 0 0) (kk : P (F_X8_read_141_2 I L a1 a2 a3 a4 r5 a6 a7 a8)) : V (zM x_X8_read 4 0 0 t) 141 [(0, .ref 0), (1, .int a1), (2, .int a2), (3, .int a3), (4, .int a4), (5, .ref r5), (6, .int a6), (7, .int a7), (8, .int a8)] [] ly0 I L R0 0 0 :=
  V_aload_n (tat ok_X8_read_1 (i := 31) (q := 142) rfl rfl) 0 rfl rfl <|
    V_getR (tat ok_X8_read_1 (i := 32) (q := 145) rfl rfl) fk_X8_14 rfl rfl <|
    V_dup (tat ok_X8_read_1 (i := 33) (q := 146) rfl rfl) rfl <|
    V_getL (tat ok_X8_read_1 (i := 34) (q := 149) rfl rfl) fk_X8_137 rfl <|
    V_aload_n (tat ok_X8_read_1 (i := 35) (q := 150) rfl rfl) 0 rfl rfl <|
    V_getR (tat ok_X8_read_1 (i := 36) (q := 153) rfl rfl) fk_X8_14 rfl rfl <|
    V_aload (tat ok_X8_read_1 (i := 37) (q := 155) rfl rfl) 5 rfl <|
    V_iload_n (tat ok_X8_read_1 (i := 38) (q := 156) rfl rfl) 3 rfl rfl <|
    V_iconst (tat ok_X8_read_1 (i := 39) (q := 157) rfl rfl) ic_2 <|
    V_iload (tat ok_X8_read_2 (i := 0) (q := 159) rfl rfl) 8 rfl <|
    V_imul (tat ok_X8_read_2 (i := 1) (q := 160) rfl rfl) <|
    V_iadd (tat ok_X8_read_2 (i := 2) (q := 161) rfl rfl) <|
    V_cv1 (ct_X3_cell I L r5 (a3 + (2 * a8)) hr5) mo_X3_cell (tat ok_X8_read_2 (i := 3) (q := 164) rfl rfl) ml_X8_316 hr5.1 ⟨by decide, _, rfl, rfl⟩ ⟨(Nat.le_of_ble_eq_true rfl), (Nat.le_of_ble_eq_true rfl)⟩ ⟨(Nat.le_of_ble_eq_true rfl), (Nat.le_of_ble_eq_true rfl)⟩ (Nat.le_of_ble_eq_true rfl) <|
    V_aload (tat ok_X8_read_2 (i := 4) (q := 166) rfl rfl) 5 rfl <|
    V_iload_n (tat ok_X8_read_2 (i := 5) (q := 167) rfl rfl) 3 rfl rfl <|
    V_iconst (tat ok_X8_read_2 (i := 6) (q := 168) rfl rfl) ic_2 <|
    V_iload (tat ok_X8_read_2 (i := 7) (q := 170) rfl rfl) 8 rfl <|
    V_imul (tat ok_X8_read_2 (i := 8) (q := 171) rfl rfl) <|
    V_iadd (tat ok_X8_read_2 (i := 9) (q := 172) rfl rfl) <|
    V_iconst (tat ok_X8_read_2 (i := 10) (q := 173) rfl rfl) ic_1 <|
    V_iadd (tat ok_X8_read_2 (i := 11) (q := 174) rfl rfl) <|
    V_cv1 (ct_X3_cell I L r5 ((a3 + (2 * a8)) + 1) hr5) mo_X3_cell (tat ok_X8_read_2 (i := 12) (q := 177) rfl rfl) ml_X8_316 hr5.1 ⟨by decide, _, rfl, rfl⟩ ⟨(Nat.le_of_ble_eq_true rfl), (Nat.le_of_ble_eq_true rfl)⟩ ⟨(Nat.le_of_ble_eq_true rfl), (Nat.le_of_ble_eq_true rfl)⟩ (Nat.le_of_ble_eq_true rfl) <|
    V_cv2 (ct_X0_squaresOf I L 1 (F_X3_cell I r5 (a3 + (2 * a8))) (F_X3_cell I r5 ((a3 + (2 * a8)) + 1)) rfl) mo_X0_squaresOf (tat ok_X8_read_2 (i := 13) (q := 180) rfl rfl) ml_X8_155 rfl ⟨by decide, _, rfl, rfl⟩ ⟨(Nat.le_of_ble_eq_true rfl), (Nat.le_of_ble_eq_true rfl)⟩ ⟨(Nat.le_of_ble_eq_true rfl), (Nat.le_of_ble_eq_true rfl)⟩ (Nat.le_of_ble_eq_true rfl) <|
    V_lxor (tat ok_X8_read_2 (i := 14) (q := 181) rfl rfl) <|
    V_putL (tat ok_X8_read_2 (i := 15) (q := 184) rfl rfl) fk_X8_137 rfl rfl <|
    V_iinc (v := (a8 + 1)) (lv' := [(8, .int (a8 + 1)), (0, .ref 0), (1, .int a1), (2, .int a2), (3, .int a3), (4, .int a4), (5, .ref r5), (6, .int a6), (7, .int a7)]) (tat ok_X8_read_2 (i := 16) (q := 187) rfl rfl) 8 rfl (ia ic_1) (Nat.le_of_ble_eq_true rfl) rfl <|
    V_goto (tat ok_X8_read_2 (i := 17) (q := 190) rfl rfl) rfl <|
    V_pick [1, 2, 3, 4, 5, 6, 7, 8, 0] rfl (hk (u2 L 1 3 ((L 1 3) ^^^ (F_X0_squaresOf I 1 (F_X3_cell I r5 (a3 + (2 * a8))) (F_X3_cell I r5 ((a3 + (2 * a8)) + 1))))) (jx (P := P) kk rfl))
def F_X8_read_209 (I : WI) (L : WL) (a1 : Int32) (a2 : Int32) (a3 : Int32) (a4 : Int32) (a7 : Int32) (s0 : Int32) : (Int32 × WI × WL) :=
  (a7, (u2 I 0 14 s0), L)
theorem V_X8_read_209  {I : WI} {L : WL} {a1 : Int32} {a2 : Int32} {a3 : Int32} {a4 : Int32} {a7 : Int32} {s0 : Int32} {P : (Int32 × WI × WL) → Prop} {t : Tg} (hr : ∀ v, P v → t = (some (.int (p1 v)), ly0, (p1 (p2 v)), (p2 (p2 v)), R0)) (kk : P (F_X8_read_209 I L a1 a2 a3 a4 a7 s0)) : V (zM x_X8_read 4 0 0 t) 209 [(0, .ref 0), (1, .int a1), (2, .int a2), (3, .int a3), (4, .int a4), (7, .int a7)] [.int s0, .ref 0] ly0 I L R0 0 0 :=
  V_putI (tat ok_X8_read_2 (i := 27) (q := 212) rfl rfl) fk_X8_319 rfl rfl <|
    V_iload (tat ok_X8_read_2 (i := 28) (q := 214) rfl rfl) 5 rfl <|
    V_iret (tat ok_X8_read_2 (i := 29) (q := 215) rfl rfl) _ rfl (nar_int _) (hr (a7, (u2 I 0 14 s0), L) (jx (P := P) kk rfl)) ⟨(Nat.le_of_ble_eq_true rfl), (Nat.le_of_ble_eq_true rfl)⟩
def F_X8_read_207 (I : WI) (L : WL) (a1 : Int32) (a2 : Int32) (a3 : Int32) (a4 : Int32) (a6 : Int32) (a7 : Int32) : (Int32 × WI × WL) :=
  (F_X8_read_209 I L a1 a2 a3 a4 a7 a6)
theorem V_X8_read_207  {I : WI} {L : WL} {a1 : Int32} {a2 : Int32} {a3 : Int32} {a4 : Int32} {a6 : Int32} {a7 : Int32} {P : (Int32 × WI × WL) → Prop} {t : Tg} (hr : ∀ v, P v → t = (some (.int (p1 v)), ly0, (p1 (p2 v)), (p2 (p2 v)), R0)) (kk : P (F_X8_read_207 I L a1 a2 a3 a4 a6 a7)) : V (zM x_X8_read 4 0 0 t) 207 [(0, .ref 0), (1, .int a1), (2, .int a2), (3, .int a3), (4, .int a4), (6, .int a6), (7, .int a7)] [.ref 0] ly0 I L R0 0 0 :=
  V_iload (tat ok_X8_read_2 (i := 26) (q := 209) rfl rfl) 5 rfl <|
    V_pick [0, 1, 2, 3, 4, 6] rfl (V_X8_read_209  hr (jx (P := P) kk rfl))
def F_X8_read_190 (I : WI) (L : WL) (a1 : Int32) (a2 : Int32) (a3 : Int32) (a4 : Int32) (a6 : Int32) (a7 : Int32) : (Int32 × WI × WL) :=
  (if a6 = 0 then (if a4 ≤ a7 then (F_X8_read_207 I L a1 a2 a3 a4 a6 a7) else (F_X8_read_209 I L a1 a2 a3 a4 a7 2)) else (F_X8_read_207 I L a1 a2 a3 a4 a6 a7))
theorem V_X8_read_190  {I : WI} {L : WL} {a1 : Int32} {a2 : Int32} {a3 : Int32} {a4 : Int32} {a6 : Int32} {a7 : Int32} {P : (Int32 × WI × WL) → Prop} {t : Tg} (hr : ∀ v, P v → t = (some (.int (p1 v)), ly0, (p1 (p2 v)), (p2 (p2 v)), R0)) (kk : P (F_X8_read_190 I L a1 a2 a3 a4 a6 a7)) : V (zM x_X8_read 4 0 0 t) 190 [(0, .ref 0), (1, .int a1), (2, .int a2), (3, .int a3), (4, .int a4), (6, .int a6), (7, .int a7)] [] ly0 I L R0 0 0 :=
  V_aload_n (tat ok_X8_read_2 (i := 18) (q := 191) rfl rfl) 0 rfl rfl <|
    V_iload (tat ok_X8_read_2 (i := 19) (q := 193) rfl rfl) 5 rfl <|
    V_if_ne (tat ok_X8_read_2 (i := 20) (q := 196) rfl rfl) rfl (fun c8 => V_X8_read_207  hr (jx (P := P) kk (if_neg c8))) (fun c8 => V_iload (tat ok_X8_read_2 (i := 21) (q := 198) rfl rfl) 6 rfl <|
    V_iload (tat ok_X8_read_2 (i := 22) (q := 200) rfl rfl) 4 rfl <|
    V_icmp_ge (tat ok_X8_read_2 (i := 23) (q := 203) rfl rfl) rfl (fun c9 => V_X8_read_207  hr (jx (P := P) kk (Eq.trans (if_pos c8) (if_pos c9)))) (fun c9 => V_iconst (tat ok_X8_read_2 (i := 24) (q := 204) rfl rfl) ic_2 <|
    V_goto (tat ok_X8_read_2 (i := 25) (q := 207) rfl rfl) rfl <|
    V_pick [0, 1, 2, 3, 4, 6] rfl (V_X8_read_209  hr (jx (P := P) kk (Eq.trans (if_pos c8) (if_neg c9))))))
def F_X8_read_134 (I : WI) (L : WL) (a1 : Int32) (a2 : Int32) (a3 : Int32) (a4 : Int32) (r5 : Nat) (a6 : Int32) (a7 : Int32) (a8 : Int32) : (Int32 × WI × WL) :=
  (fun q : Int32 × WL => (F_X8_read_190 I (p2 q) a1 a2 a3 a4 a6 a7)) (fr0 (fun i x => (F_X8_read_141_2 I x a1 a2 a3 a4 r5 a6 a7 i)) a7 (fu a8 a7) a8 L)
theorem V_X8_read_134  {I : WI} {L : WL} {a1 : Int32} {a2 : Int32} {a3 : Int32} {a4 : Int32} {r5 : Nat} {a6 : Int32} {a7 : Int32} {a8 : Int32} {P : (Int32 × WI × WL) → Prop} {t : Tg} (hr5 : isX3 r5) (hb8 : bz a8 = a8) (hr : ∀ v, P v → t = (some (.int (p1 v)), ly0, (p1 (p2 v)), (p2 (p2 v)), R0)) (kk : P (F_X8_read_134 I L a1 a2 a3 a4 r5 a6 a7 a8)) : V (zM x_X8_read 4 0 0 t) 134 [(0, .ref 0), (1, .int a1), (2, .int a2), (3, .int a3), (4, .int a4), (5, .ref r5), (6, .int a6), (7, .int a7), (8, .int a8)] [] ly0 I L R0 0 0 :=
  V_fr0 (fun i x => (F_X8_read_141_2 I x a1 a2 a3 a4 r5 a6 a7 i)) a7 (fun i x => V (zM x_X8_read 4 0 0 t) 134 [(0, .ref 0), (1, .int a1), (2, .int a2), (3, .int a3), (4, .int a4), (5, .ref r5), (6, .int a6), (7, .int a7), (8, .int i)] [] ly0 I x R0 0 0) (fun i x => P ((F_X8_read_190 I x a1 a2 a3 a4 a6 a7))) (c := a8) (s := L) (fun i x kx kb => V_iload (tat ok_X8_read_1 (i := 28) (q := 136) rfl rfl) 8 rfl <|
    V_iload (tat ok_X8_read_1 (i := 29) (q := 138) rfl rfl) 7 rfl <|
    V_icmp_ge (tat ok_X8_read_1 (i := 30) (q := 141) rfl rfl) rfl (fun c0 => V_pick [0, 1, 2, 3, 4, 6, 7] rfl (V_X8_read_190  hr (kx c0))) (fun c0 => V_X8_read_141_2 (P := (fun x => (fun i x => V (zM x_X8_read 4 0 0 t) 134 [(0, .ref 0), (1, .int a1), (2, .int a2), (3, .int a3), (4, .int a4), (5, .ref r5), (6, .int a6), (7, .int a7), (8, .int i)] [] ly0 I x R0 0 0) (i + 1) x)) hr5 (fun _ e => e) (kb c0))) kk
def F_X8_read_131 (I : WI) (L : WL) (a1 : Int32) (a2 : Int32) (a3 : Int32) (a4 : Int32) (r5 : Nat) (a6 : Int32) (a7 : Int32) : (Int32 × WI × WL) :=
  (F_X8_read_134 I L a1 a2 a3 a4 r5 a6 a7 0)
theorem V_X8_read_131  {I : WI} {L : WL} {a1 : Int32} {a2 : Int32} {a3 : Int32} {a4 : Int32} {r5 : Nat} {a6 : Int32} {a7 : Int32} {P : (Int32 × WI × WL) → Prop} {t : Tg} (hr5 : isX3 r5) (hr : ∀ v, P v → t = (some (.int (p1 v)), ly0, (p1 (p2 v)), (p2 (p2 v)), R0)) (kk : P (F_X8_read_131 I L a1 a2 a3 a4 r5 a6 a7)) : V (zM x_X8_read 4 0 0 t) 131 [(0, .ref 0), (1, .int a1), (2, .int a2), (3, .int a3), (4, .int a4), (5, .ref r5), (6, .int a6), (7, .int a7)] [] ly0 I L R0 0 0 :=
  V_iconst (tat ok_X8_read_1 (i := 26) (q := 132) rfl rfl) ic_0 <|
    V_istore (lv' := [(8, .int 0), (0, .ref 0), (1, .int a1), (2, .int a2), (3, .int a3), (4, .int a4), (5, .ref r5), (6, .int a6), (7, .int a7)]) (tat ok_X8_read_1 (i := 27) (q := 134) rfl rfl) (Nat.le_of_ble_eq_true rfl) rfl <|
    V_pick [1, 2, 3, 4, 5, 6, 7, 8, 0] rfl (V_X8_read_134 hr5 rfl hr (jx (P := P) kk rfl))
def F_X8_read_78 (I : WI) (L : WL) (a1 : Int32) (a2 : Int32) (a3 : Int32) (a4 : Int32) (r5 : Nat) (a6 : Int32) (a7 : Int32) (a8 : Int32) : (Int32 × WI × WL) :=
  Sum.elim (fun r => r) (fun q => (F_X8_read_131 I L a1 a2 a3 a4 r5 a6 a7)) (fr1 (fun i x => (F_X8_read_85_1 I L a1 a2 a3 a4 r5 a6 a7 i)) a7 (fu a8 a7) a8 ())
theorem V_X8_read_78  {I : WI} {L : WL} {a1 : Int32} {a2 : Int32} {a3 : Int32} {a4 : Int32} {r5 : Nat} {a6 : Int32} {a7 : Int32} {a8 : Int32} {P : (Int32 × WI × WL) → Prop} {t : Tg} (hr5 : isX3 r5) (hb8 : bz a8 = a8) (hr : ∀ v, P v → t = (some (.int (p1 v)), ly0, (p1 (p2 v)), (p2 (p2 v)), R0)) (kk : P (F_X8_read_78 I L a1 a2 a3 a4 r5 a6 a7 a8)) : V (zM x_X8_read 4 0 0 t) 78 [(0, .ref 0), (1, .int a1), (2, .int a2), (3, .int a3), (4, .int a4), (5, .ref r5), (6, .int a6), (7, .int a7), (8, .int a8)] [] ly0 I L R0 0 0 :=
  V_fr1 (fun i x => (F_X8_read_85_1 I L a1 a2 a3 a4 r5 a6 a7 i)) a7 (fun i x => V (zM x_X8_read 4 0 0 t) 78 [(0, .ref 0), (1, .int a1), (2, .int a2), (3, .int a3), (4, .int a4), (5, .ref r5), (6, .int a6), (7, .int a7), (8, .int i)] [] ly0 I L R0 0 0) (fun i x => P ((F_X8_read_131 I L a1 a2 a3 a4 r5 a6 a7))) (fun r => P (r)) (c := a8) (s := ()) (fun i x kx kb => V_iload (tat ok_X8_read_0 (i := 37) (q := 80) rfl rfl) 8 rfl <|
    V_iload (tat ok_X8_read_0 (i := 38) (q := 82) rfl rfl) 7 rfl <|
    V_icmp_ge (tat ok_X8_read_0 (i := 39) (q := 85) rfl rfl) rfl (fun c0 => V_pick [0, 1, 2, 3, 4, 5, 6, 7] rfl (V_X8_read_131 hr5 hr (kx c0))) (fun c0 => V_X8_read_85_1 (P := (Sum.elim (fun r => P (r)) (fun x => (fun i x => V (zM x_X8_read 4 0 0 t) 78 [(0, .ref 0), (1, .int a1), (2, .int a2), (3, .int a3), (4, .int a4), (5, .ref r5), (6, .int a6), (7, .int a7), (8, .int i)] [] ly0 I L R0 0 0) (i + 1) x))) hr5 (fun v e => hr v e) (fun _ e => e) (kb c0))) (sE kk)
def F_X8_read_73 (I : WI) (L : WL) (a1 : Int32) (a2 : Int32) (a3 : Int32) (a4 : Int32) (r5 : Nat) (a6 : Int32) (s0 : Int32) : (Int32 × WI × WL) :=
  (F_X8_read_78 I L a1 a2 a3 a4 r5 a6 s0 0)
theorem V_X8_read_73  {I : WI} {L : WL} {a1 : Int32} {a2 : Int32} {a3 : Int32} {a4 : Int32} {r5 : Nat} {a6 : Int32} {s0 : Int32} {P : (Int32 × WI × WL) → Prop} {t : Tg} (hr5 : isX3 r5) (hr : ∀ v, P v → t = (some (.int (p1 v)), ly0, (p1 (p2 v)), (p2 (p2 v)), R0)) (kk : P (F_X8_read_73 I L a1 a2 a3 a4 r5 a6 s0)) : V (zM x_X8_read 4 0 0 t) 73 [(0, .ref 0), (1, .int a1), (2, .int a2), (3, .int a3), (4, .int a4), (5, .ref r5), (6, .int a6)] [.int s0] ly0 I L R0 0 0 :=
  V_istore (lv' := [(7, .int s0), (0, .ref 0), (1, .int a1), (2, .int a2), (3, .int a3), (4, .int a4), (5, .ref r5), (6, .int a6)]) (tat ok_X8_read_0 (i := 34) (q := 75) rfl rfl) (Nat.le_of_ble_eq_true rfl) rfl <|
    V_iconst (tat ok_X8_read_0 (i := 35) (q := 76) rfl rfl) ic_0 <|
    V_istore (lv' := [(8, .int 0), (7, .int s0), (0, .ref 0), (1, .int a1), (2, .int a2), (3, .int a3), (4, .int a4), (5, .ref r5), (6, .int a6)]) (tat ok_X8_read_0 (i := 36) (q := 78) rfl rfl) (Nat.le_of_ble_eq_true rfl) rfl <|
    V_pick [2, 3, 4, 5, 6, 7, 8, 1, 0] rfl (V_X8_read_78 hr5 rfl hr (jx (P := P) kk rfl))
def F_X8_read_51 (I : WI) (L : WL) (a1 : Int32) (a2 : Int32) (a3 : Int32) (a4 : Int32) (r5 : Nat) (s0 : Int32) : (Int32 × WI × WL) :=
  (if s0 = 0 then (F_X8_read_73 I L a1 a2 a3 a4 r5 s0 (if (F_X3_pairsFrom I r5 a3) < a4 then (F_X3_pairsFrom I r5 a3) else a4)) else (F_X8_read_73 I L a1 a2 a3 a4 r5 s0 0))
theorem V_X8_read_51  {I : WI} {L : WL} {a1 : Int32} {a2 : Int32} {a3 : Int32} {a4 : Int32} {r5 : Nat} {s0 : Int32} {P : (Int32 × WI × WL) → Prop} {t : Tg} (hr5 : isX3 r5) (hr : ∀ v, P v → t = (some (.int (p1 v)), ly0, (p1 (p2 v)), (p2 (p2 v)), R0)) (kk : P (F_X8_read_51 I L a1 a2 a3 a4 r5 s0)) : V (zM x_X8_read 4 0 0 t) 51 [(0, .ref 0), (1, .int a1), (2, .int a2), (3, .int a3), (4, .int a4), (5, .ref r5)] [.int s0] ly0 I L R0 0 0 :=
  V_istore (lv' := [(6, .int s0), (0, .ref 0), (1, .int a1), (2, .int a2), (3, .int a3), (4, .int a4), (5, .ref r5)]) (tat ok_X8_read_0 (i := 24) (q := 53) rfl rfl) (Nat.le_of_ble_eq_true rfl) rfl <|
    V_iload (tat ok_X8_read_0 (i := 25) (q := 55) rfl rfl) 0 rfl <|
    V_if_ne (tat ok_X8_read_0 (i := 26) (q := 58) rfl rfl) rfl (fun c6 => V_iconst (tat ok_X8_read_0 (i := 33) (q := 73) rfl rfl) ic_0 <|
    V_pick [1, 2, 3, 4, 5, 6, 0] rfl (V_X8_read_73 hr5 hr (jx (P := P) kk (if_neg c6)))) (fun c6 => V_iload (tat ok_X8_read_0 (i := 27) (q := 60) rfl rfl) 5 rfl <|
    V_aload (tat ok_X8_read_0 (i := 28) (q := 62) rfl rfl) 6 rfl <|
    V_iload_n (tat ok_X8_read_0 (i := 29) (q := 63) rfl rfl) 4 rfl rfl <|
    V_cv1 (ct_X3_pairsFrom I L r5 a3 hr5) mo_X3_pairsFrom (tat ok_X8_read_0 (i := 30) (q := 66) rfl rfl) ml_X8_310 hr5.1 ⟨by decide, _, rfl, rfl⟩ ⟨(Nat.le_of_ble_eq_true rfl), (Nat.le_of_ble_eq_true rfl)⟩ ⟨(Nat.le_of_ble_eq_true rfl), (Nat.le_of_ble_eq_true rfl)⟩ (Nat.le_of_ble_eq_true rfl) <|
    V_min (tat ok_X8_read_0 (i := 31) (q := 69) rfl rfl) mm_li_X8_313 mm_min_st mm_min_co mm_ini ⟨(Nat.le_of_ble_eq_true rfl), (Nat.le_of_ble_eq_true rfl)⟩ ⟨(Nat.le_of_ble_eq_true rfl), (Nat.le_of_ble_eq_true rfl)⟩ <|
    V_goto (tat ok_X8_read_0 (i := 32) (q := 72) rfl rfl) rfl <|
    V_pick [1, 2, 3, 4, 5, 6, 0] rfl (V_X8_read_73 hr5 hr (jx (P := P) kk (if_pos c6))))
def F_X8_read (I : WI) (L : WL) (a1 : Int32) (a2 : Int32) (a3 : Int32) (a4 : Int32) : (Int32 × WI × WL) :=
  (if ¬ (a1 < 0 ∨ 4 ≤ Int32.toNatClampNeg a1) then (if (F_X8_isLane a2) = 0 then (F_X8_read_34 I L a1 a2 a3 a4) else (if a4 < 0 then (F_X8_read_34 I L a1 a2 a3 a4) else (if a4 ≤ 20 then (if a4 = 0 then (F_X8_read_51 I L a1 a2 a3 a4 (sid a1) 0) else (F_X8_read_51 I L a1 a2 a3 a4 (sid a1) (F_X3_faultOfLane I (sid a1) a2))) else (F_X8_read_34 I L a1 a2 a3 a4)))) else (F_X8_read_34 I L a1 a2 a3 a4))
theorem V_X8_read  {I : WI} {L : WL} {a1 : Int32} {a2 : Int32} {a3 : Int32} {a4 : Int32}  {P : (Int32 × WI × WL) → Prop} {t : Tg} (hr : ∀ v, P v → t = (some (.int (p1 v)), ly0, (p1 (p2 v)), (p2 (p2 v)), R0)) (kk : P (F_X8_read I L a1 a2 a3 a4)) : V (zM x_X8_read 4 0 0 t) 0 [(0, .ref 0), (1, .int a1), (2, .int a2), (3, .int a3), (4, .int a4)] [] ly0 I L R0 0 0 :=
  V_aload_n (tat ok_X8_read_0 (i := 0) (q := 1) rfl rfl) 0 rfl rfl <|
    V_getR (tat ok_X8_read_0 (i := 1) (q := 4) rfl rfl) fk_X8_56 rfl rfl <|
    V_iload_n (tat ok_X8_read_0 (i := 2) (q := 5) rfl rfl) 1 rfl rfl <|
    (if c1 : ¬ (a1 < 0 ∨ 4 ≤ Int32.toNatClampNeg a1) then V_cv1 (ct_at1 I L a1 c1) mo_X4_at (tat ok_X8_read_0 (i := 3) (q := 8) rfl rfl) ml_X8_286 rfl ⟨by decide, _, rfl, rfl⟩ ⟨(Nat.le_of_ble_eq_true rfl), (Nat.le_of_ble_eq_true rfl)⟩ ⟨(Nat.le_of_ble_eq_true rfl), (Nat.le_of_ble_eq_true rfl)⟩ (Nat.le_of_ble_eq_true rfl) <|
    V_astore (lv' := [(5, .ref (sid a1)), (0, .ref 0), (1, .int a1), (2, .int a2), (3, .int a3), (4, .int a4)]) (tat ok_X8_read_0 (i := 4) (q := 10) rfl rfl) (isX3_lt (isX3_sid c1)) (Nat.le_of_ble_eq_true rfl) rfl <|
    V_aload (tat ok_X8_read_0 (i := 5) (q := 12) rfl rfl) 0 rfl <|
    V_ifnull (tat ok_X8_read_0 (i := 6) (q := 15) rfl rfl) (isX3_lt (isX3_sid c1)) <|
    V_iload_n (tat ok_X8_read_0 (i := 7) (q := 16) rfl rfl) 3 rfl rfl <|
    V_cs1 (ct_X8_isLane I L a2 ) mo_X8_isLane (tat ok_X8_read_0 (i := 8) (q := 19) rfl rfl) ml_X8_290 ⟨(Nat.le_of_ble_eq_true rfl), (Nat.le_of_ble_eq_true rfl)⟩ ⟨(Nat.le_of_ble_eq_true rfl), (Nat.le_of_ble_eq_true rfl)⟩ (Nat.le_of_ble_eq_true rfl) <|
    V_if_eq (tat ok_X8_read_0 (i := 9) (q := 22) rfl rfl) rfl (fun c2 => V_pick [1, 2, 3, 4, 5] rfl (V_X8_read_34  hr (jx (P := P) kk (Eq.trans (if_pos c1) (if_pos c2))))) (fun c2 => V_iload (tat ok_X8_read_0 (i := 10) (q := 24) rfl rfl) 5 rfl <|
    V_if_lt (tat ok_X8_read_0 (i := 11) (q := 27) rfl rfl) rfl (fun c3 => V_pick [1, 2, 3, 4, 5] rfl (V_X8_read_34  hr (jx (P := P) kk (Eq.trans (if_pos c1) (Eq.trans (if_neg c2) (if_pos c3)))))) (fun c3 => V_iload (tat ok_X8_read_0 (i := 12) (q := 29) rfl rfl) 5 rfl <|
    V_bipush (tat ok_X8_read_0 (i := 13) (q := 31) rfl rfl) bp_20 <|
    V_icmp_le (tat ok_X8_read_0 (i := 14) (q := 34) rfl rfl) rfl (fun c4 => V_iload (tat ok_X8_read_0 (i := 17) (q := 38) rfl rfl) 5 rfl <|
    V_if_ne (tat ok_X8_read_0 (i := 18) (q := 41) rfl rfl) rfl (fun c5 => V_aload (tat ok_X8_read_0 (i := 21) (q := 47) rfl rfl) 0 rfl <|
    V_iload_n (tat ok_X8_read_0 (i := 22) (q := 48) rfl rfl) 3 rfl rfl <|
    V_cv1 (ct_X3_faultOfLane I L (sid a1) a2 (isX3_sid c1)) mo_X3_faultOfLane (tat ok_X8_read_0 (i := 23) (q := 51) rfl rfl) ml_X8_307 (isX3_sid c1).1 ⟨by decide, _, rfl, rfl⟩ ⟨(Nat.le_of_ble_eq_true rfl), (Nat.le_of_ble_eq_true rfl)⟩ ⟨(Nat.le_of_ble_eq_true rfl), (Nat.le_of_ble_eq_true rfl)⟩ (Nat.le_of_ble_eq_true rfl) <|
    V_pick [1, 2, 3, 4, 5, 0] rfl (V_X8_read_51 (isX3_sid c1) hr (jx (P := P) kk (Eq.trans (if_pos c1) (Eq.trans (if_neg c2) (Eq.trans (if_neg c3) (Eq.trans (if_pos c4) (if_neg c5)))))))) (fun c5 => V_iconst (tat ok_X8_read_0 (i := 19) (q := 42) rfl rfl) ic_0 <|
    V_goto (tat ok_X8_read_0 (i := 20) (q := 45) rfl rfl) rfl <|
    V_pick [1, 2, 3, 4, 5, 0] rfl (V_X8_read_51 (isX3_sid c1) hr (jx (P := P) kk (Eq.trans (if_pos c1) (Eq.trans (if_neg c2) (Eq.trans (if_neg c3) (Eq.trans (if_pos c4) (if_pos c5))))))))) (fun c4 => V_pick [1, 2, 3, 4, 5] rfl (V_X8_read_34  hr (jx (P := P) kk (Eq.trans (if_pos c1) (Eq.trans (if_neg c2) (Eq.trans (if_neg c3) (if_neg c4))))))))) else V_cv1 (ct_atN I L a1 c1) mo_X4_at (tat ok_X8_read_0 (i := 3) (q := 8) rfl rfl) ml_X8_286 rfl ⟨by decide, _, rfl, rfl⟩ ⟨(Nat.le_of_ble_eq_true rfl), (Nat.le_of_ble_eq_true rfl)⟩ ⟨(Nat.le_of_ble_eq_true rfl), (Nat.le_of_ble_eq_true rfl)⟩ (Nat.le_of_ble_eq_true rfl) <|
    V_astoreN (lv' := [(5, .null), (0, .ref 0), (1, .int a1), (2, .int a2), (3, .int a3), (4, .int a4)]) (tat ok_X8_read_0 (i := 4) (q := 10) rfl rfl) (Nat.le_of_ble_eq_true rfl) rfl <|
    V_aloadN (tat ok_X8_read_0 (i := 5) (q := 12) rfl rfl) 0 rfl <|
    V_ifnullN (tat ok_X8_read_0 (i := 6) (q := 15) rfl rfl) rfl <|
    V_pick [1, 2, 3, 4, 5] rfl (V_X8_read_34  hr (jx (P := P) kk (if_neg c1))))
theorem ct_X8_read  (I : WI) (L : WL) (a1 : Int32) (a2 : Int32) (a3 : Int32) (a4 : Int32)  : Ct x_X8_read 4 [.ref 0, .int a1, .int a2, .int a3, .int a4] ly0 I L R0 0 0 (some (.int (p1 (F_X8_read I L a1 a2 a3 a4))), ly0, (p1 (p2 (F_X8_read I L a1 a2 a3 a4))), (p2 (p2 (F_X8_read I L a1 a2 a3 a4))), R0) :=
  Ct_of_V mo_X8_read.1 (Nat.le_of_ble_eq_true rfl) (V_X8_read (P := fun x => x = (F_X8_read I L a1 a2 a3 a4))  (fun _ e => by rw [e]) rfl)
def F_X8_torn (I : WI) : Int32 :=
  (I 0 14)
theorem V_X8_torn  {I : WI} {L : WL}   {P : Int32 → Prop} {t : Tg} (hr : ∀ v, P v → t = (some (.int v), ly0, I, L, R0)) (kk : P (F_X8_torn I)) : V (zM x_X8_torn 1 0 0 t) 0 [(0, .ref 0)] [] ly0 I L R0 0 0 :=
  V_aload_n (tat ok_X8_torn_0 (i := 0) (q := 1) rfl rfl) 0 rfl rfl <|
    V_getI (tat ok_X8_torn_0 (i := 1) (q := 4) rfl rfl) fk_X8_319 rfl <|
    V_iret (tat ok_X8_torn_0 (i := 2) (q := 5) rfl rfl) _ rfl (nar_int _) (hr (I 0 14) (jx (P := P) kk rfl)) ⟨(Nat.le_of_ble_eq_true rfl), (Nat.le_of_ble_eq_true rfl)⟩
theorem ct_X8_torn  (I : WI) (L : WL)  : Ct x_X8_torn 1 [.ref 0] ly0 I L R0 0 0 (some (.int (F_X8_torn I)), ly0, I, L, R0) :=
  Ct_of_V mo_X8_torn.1 (Nat.le_of_ble_eq_true rfl) (V_X8_torn (P := fun x => x = (F_X8_torn I))  (fun _ e => by rw [e]) rfl)
def F_X8_count_97 (I : WI) (L : WL) (a1 : Int32) (s0 : Int32) : Int32 :=
  s0
theorem V_X8_count_97  {I : WI} {L : WL} {a1 : Int32} {s0 : Int32} {P : Int32 → Prop} {t : Tg} (hr : ∀ v, P v → t = (some (.int v), ly0, I, L, R0)) (kk : P (F_X8_count_97 I L a1 s0)) : V (zM x_X8_count 3 0 0 t) 97 [(0, .ref 0), (1, .int a1)] [.int s0] ly0 I L R0 0 0 :=
  V_iret (tat ok_X8_count_0 (i := 28) (q := 98) rfl rfl) _ rfl (nar_int _) (hr s0 (jx (P := P) kk rfl)) ⟨(Nat.le_of_ble_eq_true rfl), (Nat.le_of_ble_eq_true rfl)⟩
def F_X8_count_128 (I : WI) (L : WL) (a1 : Int32) (s0 : Int32) (s1 : Int32) : Int32 :=
  (s1 + s0)
theorem V_X8_count_128  {I : WI} {L : WL} {a1 : Int32} {s0 : Int32} {s1 : Int32} {P : Int32 → Prop} {t : Tg} (hs0 : bz s0 = s0) (hs1 : bz s1 = s1) (hr : ∀ v, P v → t = (some (.int v), ly0, I, L, R0)) (kk : P (F_X8_count_128 I L a1 s0 s1)) : V (zM x_X8_count 3 0 0 t) 128 [(0, .ref 0), (1, .int a1)] [.int s0, .int s1] ly0 I L R0 0 0 :=
  V_iadd (tat ok_X8_count_1 (i := 3) (q := 129) rfl rfl) <|
    V_iret (tat ok_X8_count_1 (i := 4) (q := 130) rfl rfl) _ rfl (nar_int _) (hr (s1 + s0) (jx (P := P) kk rfl)) ⟨(Nat.le_of_ble_eq_true rfl), (Nat.le_of_ble_eq_true rfl)⟩
def F_X8_count_113 (I : WI) (L : WL) (a1 : Int32) (s0 : Int32) : Int32 :=
  (if (bz (I 4 0)) = 0 then (F_X8_count_128 I L a1 0 s0) else (F_X8_count_128 I L a1 1 s0))
theorem V_X8_count_113  {I : WI} {L : WL} {a1 : Int32} {s0 : Int32} {P : Int32 → Prop} {t : Tg} (hs0 : bz s0 = s0) (hr : ∀ v, P v → t = (some (.int v), ly0, I, L, R0)) (kk : P (F_X8_count_113 I L a1 s0)) : V (zM x_X8_count 3 0 0 t) 113 [(0, .ref 0), (1, .int a1)] [.int s0] ly0 I L R0 0 0 :=
  V_aload_n (tat ok_X8_count_0 (i := 36) (q := 114) rfl rfl) 0 rfl rfl <|
    V_getR (tat ok_X8_count_0 (i := 37) (q := 117) rfl rfl) fk_X8_24 rfl rfl <|
    V_getZ (tat ok_X8_count_0 (i := 38) (q := 120) rfl rfl) fk_X8_106 rfl <|
    V_if_eq (tat ok_X8_count_0 (i := 39) (q := 123) rfl rfl) rfl (fun c9 => V_iconst (tat ok_X8_count_1 (i := 2) (q := 128) rfl rfl) ic_0 <|
    V_X8_count_128 rfl hs0 hr (jx (P := P) kk (if_pos c9))) (fun c9 => V_iconst (tat ok_X8_count_1 (i := 0) (q := 124) rfl rfl) ic_1 <|
    V_goto (tat ok_X8_count_1 (i := 1) (q := 127) rfl rfl) rfl <|
    V_X8_count_128 rfl hs0 hr (jx (P := P) kk (if_neg c9)))
def F_X8_count (I : WI) (L : WL) (a1 : Int32) : Int32 :=
  (if a1 = 0 then (F_X0_darkSquares L 1) else (if a1 = 1 then ((I 1 1) * (I 1 2)) else (if a1 = 2 then (if (bz (I 2 0)) = 0 then (F_X8_count_97 I L a1 (-4)) else (F_X8_count_97 I L a1 (F_J13_bitCount_95d88 ((L 1 3) ^^^ (L 2 3))))) else (if a1 = 3 then (if (bz (I 3 0)) = 0 then (F_X8_count_113 I L a1 0) else (F_X8_count_113 I L a1 1)) else (if a1 = 4 then (I 9 0) else (if a1 = 5 then (F_X4_cellsOf I 0) else (-1)))))))
theorem V_X8_count  {I : WI} {L : WL} {a1 : Int32}  {P : Int32 → Prop} {t : Tg} (hr : ∀ v, P v → t = (some (.int v), ly0, I, L, R0)) (kk : P (F_X8_count I L a1)) : V (zM x_X8_count 3 0 0 t) 0 [(0, .ref 0), (1, .int a1)] [] ly0 I L R0 0 0 :=
  V_iload_n (tat ok_X8_count_0 (i := 0) (q := 1) rfl rfl) 1 rfl rfl <|
    (if c1 : a1 = 0 then V_tswJ (tgt := 40) (off := 39) 0 (tat ok_X8_count_0 (i := 1) (q := 40) rfl rfl) (swj c1) ⟨rfl, by decide⟩ rfl (V_aload_n (tat ok_X8_count_0 (i := 2) (q := 41) rfl rfl) 0 rfl rfl <|
    V_getR (tat ok_X8_count_0 (i := 3) (q := 44) rfl rfl) fk_X8_14 rfl rfl <|
    V_cv0 (ct_X0_darkSquares I L 1 rfl) mo_X0_darkSquares (tat ok_X8_count_0 (i := 4) (q := 47) rfl rfl) ml_X8_159 rfl ⟨by decide, _, rfl, rfl⟩ ⟨(Nat.le_of_ble_eq_true rfl), (Nat.le_of_ble_eq_true rfl)⟩ ⟨(Nat.le_of_ble_eq_true rfl), (Nat.le_of_ble_eq_true rfl)⟩ (Nat.le_of_ble_eq_true rfl) <|
    V_iret (tat ok_X8_count_0 (i := 5) (q := 48) rfl rfl) _ rfl (nar_int _) (hr (F_X0_darkSquares L 1) (jx (P := P) kk (if_pos c1))) ⟨(Nat.le_of_ble_eq_true rfl), (Nat.le_of_ble_eq_true rfl)⟩) else (if c2 : a1 = 1 then V_tswJ (tgt := 48) (off := 47) 1 (tat ok_X8_count_0 (i := 1) (q := 40) rfl rfl) (swj c2) ⟨rfl, by decide⟩ rfl (V_aload_n (tat ok_X8_count_0 (i := 6) (q := 49) rfl rfl) 0 rfl rfl <|
    V_getR (tat ok_X8_count_0 (i := 7) (q := 52) rfl rfl) fk_X8_14 rfl rfl <|
    V_getI (tat ok_X8_count_0 (i := 8) (q := 55) rfl rfl) fk_X8_117 rfl <|
    V_aload_n (tat ok_X8_count_0 (i := 9) (q := 56) rfl rfl) 0 rfl rfl <|
    V_getR (tat ok_X8_count_0 (i := 10) (q := 59) rfl rfl) fk_X8_14 rfl rfl <|
    V_getI (tat ok_X8_count_0 (i := 11) (q := 62) rfl rfl) fk_X8_120 rfl <|
    V_imul (tat ok_X8_count_0 (i := 12) (q := 63) rfl rfl) <|
    V_iret (tat ok_X8_count_0 (i := 13) (q := 64) rfl rfl) _ rfl (nar_int _) (hr ((I 1 1) * (I 1 2)) (jx (P := P) kk (Eq.trans (if_neg c1) (if_pos c2)))) ⟨(Nat.le_of_ble_eq_true rfl), (Nat.le_of_ble_eq_true rfl)⟩) else (if c3 : a1 = 2 then V_tswJ (tgt := 64) (off := 63) 2 (tat ok_X8_count_0 (i := 1) (q := 40) rfl rfl) (swj c3) ⟨rfl, by decide⟩ rfl (V_aload_n (tat ok_X8_count_0 (i := 14) (q := 65) rfl rfl) 0 rfl rfl <|
    V_getR (tat ok_X8_count_0 (i := 15) (q := 68) rfl rfl) fk_X8_18 rfl rfl <|
    V_getZ (tat ok_X8_count_0 (i := 16) (q := 71) rfl rfl) fk_X8_106 rfl <|
    V_if_eq (tat ok_X8_count_0 (i := 17) (q := 74) rfl rfl) rfl (fun c7 => V_bipush (tat ok_X8_count_0 (i := 27) (q := 97) rfl rfl) bp_m4 <|
    V_X8_count_97  hr (jx (P := P) kk (Eq.trans (if_neg c1) (Eq.trans (if_neg c2) (Eq.trans (if_pos c3) (if_pos c7)))))) (fun c7 => V_aload_n (tat ok_X8_count_0 (i := 18) (q := 75) rfl rfl) 0 rfl rfl <|
    V_getR (tat ok_X8_count_0 (i := 19) (q := 78) rfl rfl) fk_X8_14 rfl rfl <|
    V_getL (tat ok_X8_count_0 (i := 20) (q := 81) rfl rfl) fk_X8_137 rfl <|
    V_aload_n (tat ok_X8_count_0 (i := 21) (q := 82) rfl rfl) 0 rfl rfl <|
    V_getR (tat ok_X8_count_0 (i := 22) (q := 85) rfl rfl) fk_X8_18 rfl rfl <|
    V_getL (tat ok_X8_count_0 (i := 23) (q := 88) rfl rfl) fk_X8_137 rfl <|
    V_lxor (tat ok_X8_count_0 (i := 24) (q := 89) rfl rfl) <|
    V_cs1 (ct_J13_bitCount_95d88 I L ((L 1 3) ^^^ (L 2 3)) ) mo_J13_bitCount_95d88 (tat ok_X8_count_0 (i := 25) (q := 92) rfl rfl) ml_X8_322 ⟨(Nat.le_of_ble_eq_true rfl), (Nat.le_of_ble_eq_true rfl)⟩ ⟨(Nat.le_of_ble_eq_true rfl), (Nat.le_of_ble_eq_true rfl)⟩ (Nat.le_of_ble_eq_true rfl) <|
    V_goto (tat ok_X8_count_0 (i := 26) (q := 95) rfl rfl) rfl <|
    V_X8_count_97  hr (jx (P := P) kk (Eq.trans (if_neg c1) (Eq.trans (if_neg c2) (Eq.trans (if_pos c3) (if_neg c7))))))) else (if c4 : a1 = 3 then V_tswJ (tgt := 98) (off := 97) 3 (tat ok_X8_count_0 (i := 1) (q := 40) rfl rfl) (swj c4) ⟨rfl, by decide⟩ rfl (V_aload_n (tat ok_X8_count_0 (i := 29) (q := 99) rfl rfl) 0 rfl rfl <|
    V_getR (tat ok_X8_count_0 (i := 30) (q := 102) rfl rfl) fk_X8_21 rfl rfl <|
    V_getZ (tat ok_X8_count_0 (i := 31) (q := 105) rfl rfl) fk_X8_106 rfl <|
    V_if_eq (tat ok_X8_count_0 (i := 32) (q := 108) rfl rfl) rfl (fun c8 => V_iconst (tat ok_X8_count_0 (i := 35) (q := 113) rfl rfl) ic_0 <|
    V_X8_count_113 rfl hr (jx (P := P) kk (Eq.trans (if_neg c1) (Eq.trans (if_neg c2) (Eq.trans (if_neg c3) (Eq.trans (if_pos c4) (if_pos c8))))))) (fun c8 => V_iconst (tat ok_X8_count_0 (i := 33) (q := 109) rfl rfl) ic_1 <|
    V_goto (tat ok_X8_count_0 (i := 34) (q := 112) rfl rfl) rfl <|
    V_X8_count_113 rfl hr (jx (P := P) kk (Eq.trans (if_neg c1) (Eq.trans (if_neg c2) (Eq.trans (if_neg c3) (Eq.trans (if_pos c4) (if_neg c8)))))))) else (if c5 : a1 = 4 then V_tswJ (tgt := 130) (off := 129) 4 (tat ok_X8_count_0 (i := 1) (q := 40) rfl rfl) (swj c5) ⟨rfl, by decide⟩ rfl (V_aload_n (tat ok_X8_count_1 (i := 5) (q := 131) rfl rfl) 0 rfl rfl <|
    V_getR (tat ok_X8_count_1 (i := 6) (q := 134) rfl rfl) fk_X8_40 rfl rfl <|
    V_getI (tat ok_X8_count_1 (i := 7) (q := 137) rfl rfl) fk_X8_85 rfl <|
    V_iret (tat ok_X8_count_1 (i := 8) (q := 138) rfl rfl) _ rfl (nar_int _) (hr (I 9 0) (jx (P := P) kk (Eq.trans (if_neg c1) (Eq.trans (if_neg c2) (Eq.trans (if_neg c3) (Eq.trans (if_neg c4) (if_pos c5))))))) ⟨(Nat.le_of_ble_eq_true rfl), (Nat.le_of_ble_eq_true rfl)⟩) else (if c6 : a1 = 5 then V_tswJ (tgt := 138) (off := 137) 5 (tat ok_X8_count_0 (i := 1) (q := 40) rfl rfl) (swj c6) ⟨rfl, by decide⟩ rfl (V_aload_n (tat ok_X8_count_1 (i := 9) (q := 139) rfl rfl) 0 rfl rfl <|
    V_getR (tat ok_X8_count_1 (i := 10) (q := 142) rfl rfl) fk_X8_56 rfl rfl <|
    V_iconst (tat ok_X8_count_1 (i := 11) (q := 143) rfl rfl) ic_0 <|
    V_cv1 (ct_X4_cellsOf I L 0 ) mo_X4_cellsOf (tat ok_X8_count_1 (i := 12) (q := 146) rfl rfl) ml_X8_327 rfl ⟨by decide, _, rfl, rfl⟩ ⟨(Nat.le_of_ble_eq_true rfl), (Nat.le_of_ble_eq_true rfl)⟩ ⟨(Nat.le_of_ble_eq_true rfl), (Nat.le_of_ble_eq_true rfl)⟩ (Nat.le_of_ble_eq_true rfl) <|
    V_iret (tat ok_X8_count_1 (i := 13) (q := 147) rfl rfl) _ rfl (nar_int _) (hr (F_X4_cellsOf I 0) (jx (P := P) kk (Eq.trans (if_neg c1) (Eq.trans (if_neg c2) (Eq.trans (if_neg c3) (Eq.trans (if_neg c4) (Eq.trans (if_neg c5) (if_pos c6)))))))) ⟨(Nat.le_of_ble_eq_true rfl), (Nat.le_of_ble_eq_true rfl)⟩) else V_tswD (tgt := 147) (tat ok_X8_count_0 (i := 1) (q := 40) rfl rfl) (sw6 c1 c2 c3 c4 c5 c6) rfl (V_iconst (tat ok_X8_count_1 (i := 14) (q := 148) rfl rfl) ic_m1 <|
    V_iret (tat ok_X8_count_1 (i := 15) (q := 149) rfl rfl) _ rfl (nar_int _) (hr (-1) (jx (P := P) kk (Eq.trans (if_neg c1) (Eq.trans (if_neg c2) (Eq.trans (if_neg c3) (Eq.trans (if_neg c4) (Eq.trans (if_neg c5) (if_neg c6)))))))) ⟨(Nat.le_of_ble_eq_true rfl), (Nat.le_of_ble_eq_true rfl)⟩)))))))
theorem ct_X8_count  (I : WI) (L : WL) (a1 : Int32)  : Ct x_X8_count 3 [.ref 0, .int a1] ly0 I L R0 0 0 (some (.int (F_X8_count I L a1)), ly0, I, L, R0) :=
  Ct_of_V mo_X8_count.1 (Nat.le_of_ble_eq_true rfl) (V_X8_count (P := fun x => x = (F_X8_count I L a1))  (fun _ e => by rw [e]) rfl)

