theorem ct_X9_back  (I : WI) (L : WL) (a1 : Int32)  {v : (Int32 × WI × WL)} (h : (F_X9_back I L a1) = some v) : Ct x_X9_back 3 [.ref 33, .int a1] ly0 I L R0 0 0 (some (.int (p1 v)), ly0, (p1 (p2 v)), (p2 (p2 v)), R0) :=
  Ct_of_V mo_X9_back.1 (Nat.le_of_ble_eq_true rfl) (V_X9_back (P := fun x => x = v)  (fun _ e => by rw [e]) (by rw [h]; exact rfl))
def F_X9_isSheet_29 (a0 : Int32) (a1 : Int32) (s0 : Int32) : Int32 :=
  s0
theorem V_X9_isSheet_29  {I : WI} {L : WL} {a0 : Int32} {a1 : Int32} {s0 : Int32} {P : Int32 → Prop} {t : Tg} (hs0 : bz s0 = s0) (hr : ∀ v, P v → t = (some (.int v), ly0, I, L, R0)) (kk : P (F_X9_isSheet_29 a0 a1 s0)) : V (zM x_X9_isSheet 2 0 0 t) 29 [(0, .int a0), (1, .int a1)] [.int s0] ly0 I L R0 0 0 :=
  V_iret (tat ok_X9_isSheet_0 (i := 15) (q := 30) rfl rfl) _ rfl (bz_nf hs0).1 (hr s0 (jx (P := P) kk rfl)) ⟨(Nat.le_of_ble_eq_true rfl), (Nat.le_of_ble_eq_true rfl)⟩
def F_X9_isSheet_28 (a0 : Int32) (a1 : Int32) : Int32 :=
  (F_X9_isSheet_29 a0 a1 0)
theorem V_X9_isSheet_28  {I : WI} {L : WL} {a0 : Int32} {a1 : Int32}  {P : Int32 → Prop} {t : Tg} (hr : ∀ v, P v → t = (some (.int v), ly0, I, L, R0)) (kk : P (F_X9_isSheet_28 a0 a1)) : V (zM x_X9_isSheet 2 0 0 t) 28 [(0, .int a0), (1, .int a1)] [] ly0 I L R0 0 0 :=
  V_iconst (tat ok_X9_isSheet_0 (i := 14) (q := 29) rfl rfl) ic_0 <|
    V_X9_isSheet_29 rfl hr (jx (P := P) kk rfl)
def F_X9_isSheet (a0 : Int32) (a1 : Int32) : Int32 :=
  (if (F_X9_in (Int32.toInt64 a0) 0 3) = 0 then (F_X9_isSheet_28 a0 a1) else (if (F_X9_in (Int32.toInt64 a1) 0 2) = 0 then (F_X9_isSheet_28 a0 a1) else (F_X9_isSheet_29 a0 a1 1)))
theorem V_X9_isSheet  {I : WI} {L : WL} {a0 : Int32} {a1 : Int32}  {P : Int32 → Prop} {t : Tg} (hr : ∀ v, P v → t = (some (.int v), ly0, I, L, R0)) (kk : P (F_X9_isSheet a0 a1)) : V (zM x_X9_isSheet 2 0 0 t) 0 [(0, .int a0), (1, .int a1)] [] ly0 I L R0 0 0 :=
  V_iload_n (tat ok_X9_isSheet_0 (i := 0) (q := 1) rfl rfl) 0 rfl rfl <|
    V_i2l (tat ok_X9_isSheet_0 (i := 1) (q := 2) rfl rfl) <|
    V_lconst (v := 0) (tat ok_X9_isSheet_0 (i := 2) (q := 3) rfl rfl) rfl <|
    V_ldc2 (tat ok_X9_isSheet_0 (i := 3) (q := 6) rfl rfl) (gw_in kl_X9_251 rfl) <|
    V_cs3 (ct_X9_in I L (Int32.toInt64 a0) 0 3 ) mo_X9_in (tat ok_X9_isSheet_0 (i := 4) (q := 9) rfl rfl) ml_X9_97 ⟨(Nat.le_of_ble_eq_true rfl), (Nat.le_of_ble_eq_true rfl)⟩ ⟨(Nat.le_of_ble_eq_true rfl), (Nat.le_of_ble_eq_true rfl)⟩ (Nat.le_of_ble_eq_true rfl) <|
    V_if_eq (tat ok_X9_isSheet_0 (i := 5) (q := 12) rfl rfl) rfl (fun c1 => V_X9_isSheet_28  hr (jx (P := P) kk (if_pos c1))) (fun c1 => V_iload_n (tat ok_X9_isSheet_0 (i := 6) (q := 13) rfl rfl) 1 rfl rfl <|
    V_i2l (tat ok_X9_isSheet_0 (i := 7) (q := 14) rfl rfl) <|
    V_lconst (v := 0) (tat ok_X9_isSheet_0 (i := 8) (q := 15) rfl rfl) rfl <|
    V_ldc2 (tat ok_X9_isSheet_0 (i := 9) (q := 18) rfl rfl) (gw_in kl_X9_189 rfl) <|
    V_cs3 (ct_X9_in I L (Int32.toInt64 a1) 0 2 ) mo_X9_in (tat ok_X9_isSheet_0 (i := 10) (q := 21) rfl rfl) ml_X9_97 ⟨(Nat.le_of_ble_eq_true rfl), (Nat.le_of_ble_eq_true rfl)⟩ ⟨(Nat.le_of_ble_eq_true rfl), (Nat.le_of_ble_eq_true rfl)⟩ (Nat.le_of_ble_eq_true rfl) <|
    V_if_eq (tat ok_X9_isSheet_0 (i := 11) (q := 24) rfl rfl) rfl (fun c2 => V_X9_isSheet_28  hr (jx (P := P) kk (Eq.trans (if_neg c1) (if_pos c2)))) (fun c2 => V_iconst (tat ok_X9_isSheet_0 (i := 12) (q := 25) rfl rfl) ic_1 <|
    V_goto (tat ok_X9_isSheet_0 (i := 13) (q := 28) rfl rfl) rfl <|
    V_X9_isSheet_29 rfl hr (jx (P := P) kk (Eq.trans (if_neg c1) (if_neg c2)))))
theorem ct_X9_isSheet  (I : WI) (L : WL) (a0 : Int32) (a1 : Int32)  : Ct x_X9_isSheet 2 [.int a0, .int a1] ly0 I L R0 0 0 (some (.int (F_X9_isSheet a0 a1)), ly0, I, L, R0) :=
  Ct_of_V mo_X9_isSheet.1 (Nat.le_of_ble_eq_true rfl) (V_X9_isSheet (P := fun x => x = (F_X9_isSheet a0 a1))  (fun _ e => by rw [e]) rfl)
def F_X9_sheet_14 (I : WI) (a1 : Int32) (a2 : Int32) (a3 : Int32) : Option (Int32 × WI) :=
  some ((-1), I)
theorem V_X9_sheet_14  {I : WI} {L : WL} {a1 : Int32} {a2 : Int32} {a3 : Int32}  {P : (Int32 × WI) → Prop} {t : Tg} (hr : ∀ v, P v → t = (some (.int (p1 v)), ly0, (p2 v), L, R0)) (kk : oP P (F_X9_sheet_14 I a1 a2 a3)) : V (zM x_X9_sheet 3 0 0 t) 14 [(0, .ref 33), (1, .int a1), (2, .int a2), (3, .int a3)] [] ly0 I L R0 0 0 :=
  V_iconst (tat ok_X9_sheet_0 (i := 7) (q := 15) rfl rfl) ic_m1 <|
    V_iret (tat ok_X9_sheet_0 (i := 8) (q := 16) rfl rfl) _ rfl (nar_int _) (hr ((-1), I) (jx (P := oP P) kk rfl)) ⟨(Nat.le_of_ble_eq_true rfl), (Nat.le_of_ble_eq_true rfl)⟩
def F_X9_sheet_47_1 (I : WI) (a1 : Int32) (a2 : Int32) (a3 : Int32) (a4 : Int32) : Option WI :=
  (if ((40 * a1) + a4) < 0 ∨ 160 ≤ Int32.toNatClampNeg ((40 * a1) + a4) then none else some (u2 I 44 (Int32.toNatClampNeg ((40 * a1) + a4)) 0))
theorem V_X9_sheet_47_1  {I : WI} {L : WL} {a1 : Int32} {a2 : Int32} {a3 : Int32} {a4 : Int32}  {P : WI → Prop} {t : Tg} (hk : ∀ x : WI, P x → V (zM x_X9_sheet 3 0 0 t) 40 [(0, .ref 33), (1, .int a1), (2, .int a2), (3, .int a3), (4, .int (a4 + 1))] [] ly0 x L R0 0 0) (kk : oP P (F_X9_sheet_47_1 I a1 a2 a3 a4)) : V (zM x_X9_sheet 3 0 0 t) 47 [(0, .ref 33), (1, .int a1), (2, .int a2), (3, .int a3), (4, .int a4)] [] ly0 I L R0 0 0 :=
  V_aload_n (tat ok_X9_sheet_0 (i := 28) (q := 48) rfl rfl) 0 rfl rfl <|
    V_getR (tat ok_X9_sheet_0 (i := 29) (q := 51) rfl rfl) fk_X9_41 rfl rfl <|
    V_bipush (tat ok_X9_sheet_0 (i := 30) (q := 53) rfl rfl) bp_40 <|
    V_iload_n (tat ok_X9_sheet_0 (i := 31) (q := 54) rfl rfl) 1 rfl rfl <|
    V_imul (tat ok_X9_sheet_0 (i := 32) (q := 55) rfl rfl) <|
    V_iload (tat ok_X9_sheet_0 (i := 33) (q := 57) rfl rfl) 4 rfl <|
    V_iadd (tat ok_X9_sheet_0 (i := 34) (q := 58) rfl rfl) <|
    V_iconst (tat ok_X9_sheet_0 (i := 35) (q := 59) rfl rfl) ic_0 <|
    (if c6 : ((40 * a1) + a4) < 0 ∨ 160 ≤ Int32.toNatClampNeg ((40 * a1) + a4) then ((jx (P := oP P) kk (if_pos c6))).elim else V_iast (tat ok_X9_sheet_0 (i := 36) (q := 60) rfl rfl) rfl c6 <|
    V_iinc (v := (a4 + 1)) (lv' := [(4, .int (a4 + 1)), (0, .ref 33), (1, .int a1), (2, .int a2), (3, .int a3)]) (tat ok_X9_sheet_0 (i := 37) (q := 63) rfl rfl) 4 rfl (ia ic_1) (Nat.le_of_ble_eq_true rfl) rfl <|
    V_goto (tat ok_X9_sheet_0 (i := 38) (q := 66) rfl rfl) rfl <|
    V_pick [1, 2, 3, 4, 0] rfl (hk (u2 I 44 (Int32.toNatClampNeg ((40 * a1) + a4)) 0) (jx (P := oP P) kk (if_neg c6))))
def F_X9_sheet_66 (I : WI) (a1 : Int32) (a2 : Int32) (a3 : Int32) : Option (Int32 × WI) :=
  some (1, I)
theorem V_X9_sheet_66  {I : WI} {L : WL} {a1 : Int32} {a2 : Int32} {a3 : Int32}  {P : (Int32 × WI) → Prop} {t : Tg} (hr : ∀ v, P v → t = (some (.int (p1 v)), ly0, (p2 v), L, R0)) (kk : oP P (F_X9_sheet_66 I a1 a2 a3)) : V (zM x_X9_sheet 3 0 0 t) 66 [(0, .ref 33), (1, .int a1), (2, .int a2), (3, .int a3)] [] ly0 I L R0 0 0 :=
  V_iconst (tat ok_X9_sheet_0 (i := 39) (q := 67) rfl rfl) ic_1 <|
    V_iret (tat ok_X9_sheet_1 (i := 0) (q := 68) rfl rfl) _ rfl (nar_int _) (hr (1, I) (jx (P := oP P) kk rfl)) ⟨(Nat.le_of_ble_eq_true rfl), (Nat.le_of_ble_eq_true rfl)⟩
def F_X9_sheet_40 (I : WI) (a1 : Int32) (a2 : Int32) (a3 : Int32) (a4 : Int32) : Option (Int32 × WI) :=
  (frp0 (fun i x => (F_X9_sheet_47_1 x a1 a2 a3 i)) 40 (fu a4 40) a4 I).bind (fun q => (F_X9_sheet_66 (p2 q) a1 a2 a3))
theorem V_X9_sheet_40  {I : WI} {L : WL} {a1 : Int32} {a2 : Int32} {a3 : Int32} {a4 : Int32} {P : (Int32 × WI) → Prop} {t : Tg} (hb4 : bz a4 = a4) (hr : ∀ v, P v → t = (some (.int (p1 v)), ly0, (p2 v), L, R0)) (kk : oP P (F_X9_sheet_40 I a1 a2 a3 a4)) : V (zM x_X9_sheet 3 0 0 t) 40 [(0, .ref 33), (1, .int a1), (2, .int a2), (3, .int a3), (4, .int a4)] [] ly0 I L R0 0 0 :=
  V_frp0 (fun i x => (F_X9_sheet_47_1 x a1 a2 a3 i)) 40 (fun i x => V (zM x_X9_sheet 3 0 0 t) 40 [(0, .ref 33), (1, .int a1), (2, .int a2), (3, .int a3), (4, .int i)] [] ly0 x L R0 0 0) (fun i x => oP P ((F_X9_sheet_66 x a1 a2 a3))) (c := a4) (s := I) (fun i x kx kb => V_iload (tat ok_X9_sheet_0 (i := 25) (q := 42) rfl rfl) 4 rfl <|
    V_bipush (tat ok_X9_sheet_0 (i := 26) (q := 44) rfl rfl) bp_40 <|
    V_icmp_ge (tat ok_X9_sheet_0 (i := 27) (q := 47) rfl rfl) rfl (fun c0 => V_pick [0, 1, 2, 3] rfl (V_X9_sheet_66  hr (kx c0))) (fun c0 => V_X9_sheet_47_1 (P := (fun x => (fun i x => V (zM x_X9_sheet 3 0 0 t) 40 [(0, .ref 33), (1, .int a1), (2, .int a2), (3, .int a3), (4, .int i)] [] ly0 x L R0 0 0) (i + 1) x))  (fun _ e => e) (kb c0))) (oP_bind (f := fun q => _) kk)
def F_X9_sheet (I : WI) (a1 : Int32) (a2 : Int32) (a3 : Int32) : Option (Int32 × WI) :=
  (if (F_X9_isSheet a1 a2) = 0 then (F_X9_sheet_14 I a1 a2 a3) else (if a3 ≤ 40 then (if 0 ≤ a3 then (if a1 < 0 ∨ 4 ≤ Int32.toNatClampNeg a1 then none else (if a1 < 0 ∨ 4 ≤ Int32.toNatClampNeg a1 then none else (F_X9_sheet_40 (u2 (u2 I 42 (Int32.toNatClampNeg a1) a2) 43 (Int32.toNatClampNeg a1) a3) a1 a2 a3 0))) else some ((-14), I)) else (F_X9_sheet_14 I a1 a2 a3)))
theorem V_X9_sheet  {I : WI} {L : WL} {a1 : Int32} {a2 : Int32} {a3 : Int32}  {P : (Int32 × WI) → Prop} {t : Tg} (hr : ∀ v, P v → t = (some (.int (p1 v)), ly0, (p2 v), L, R0)) (kk : oP P (F_X9_sheet I a1 a2 a3)) : V (zM x_X9_sheet 3 0 0 t) 0 [(0, .ref 33), (1, .int a1), (2, .int a2), (3, .int a3)] [] ly0 I L R0 0 0 :=
  V_iload_n (tat ok_X9_sheet_0 (i := 0) (q := 1) rfl rfl) 1 rfl rfl <|
    V_iload_n (tat ok_X9_sheet_0 (i := 1) (q := 2) rfl rfl) 2 rfl rfl <|
    V_cs2 (ct_X9_isSheet I L a1 a2 ) mo_X9_isSheet (tat ok_X9_sheet_0 (i := 2) (q := 5) rfl rfl) ml_X9_333 ⟨(Nat.le_of_ble_eq_true rfl), (Nat.le_of_ble_eq_true rfl)⟩ ⟨(Nat.le_of_ble_eq_true rfl), (Nat.le_of_ble_eq_true rfl)⟩ (Nat.le_of_ble_eq_true rfl) <|
    V_if_eq (tat ok_X9_sheet_0 (i := 3) (q := 8) rfl rfl) rfl (fun c1 => V_X9_sheet_14  hr (jx (P := oP P) kk (if_pos c1))) (fun c1 => V_iload_n (tat ok_X9_sheet_0 (i := 4) (q := 9) rfl rfl) 3 rfl rfl <|
    V_bipush (tat ok_X9_sheet_0 (i := 5) (q := 11) rfl rfl) bp_40 <|
    V_icmp_le (tat ok_X9_sheet_0 (i := 6) (q := 14) rfl rfl) rfl (fun c2 => V_iload_n (tat ok_X9_sheet_0 (i := 9) (q := 17) rfl rfl) 3 rfl rfl <|
    V_if_ge (tat ok_X9_sheet_0 (i := 10) (q := 20) rfl rfl) rfl (fun c3 => V_aload_n (tat ok_X9_sheet_0 (i := 13) (q := 24) rfl rfl) 0 rfl rfl <|
    V_getR (tat ok_X9_sheet_0 (i := 14) (q := 27) rfl rfl) fk_X9_35 rfl rfl <|
    V_iload_n (tat ok_X9_sheet_0 (i := 15) (q := 28) rfl rfl) 1 rfl rfl <|
    V_iload_n (tat ok_X9_sheet_0 (i := 16) (q := 29) rfl rfl) 2 rfl rfl <|
    (if c4 : a1 < 0 ∨ 4 ≤ Int32.toNatClampNeg a1 then ((jx (P := oP P) kk (Eq.trans (if_neg c1) (Eq.trans (if_pos c2) (Eq.trans (if_pos c3) (if_pos c4)))))).elim else V_iast (tat ok_X9_sheet_0 (i := 17) (q := 30) rfl rfl) rfl c4 <|
    V_aload_n (tat ok_X9_sheet_0 (i := 18) (q := 31) rfl rfl) 0 rfl rfl <|
    V_getR (tat ok_X9_sheet_0 (i := 19) (q := 34) rfl rfl) fk_X9_38 rfl rfl <|
    V_iload_n (tat ok_X9_sheet_0 (i := 20) (q := 35) rfl rfl) 1 rfl rfl <|
    V_iload_n (tat ok_X9_sheet_0 (i := 21) (q := 36) rfl rfl) 3 rfl rfl <|
    (if c5 : a1 < 0 ∨ 4 ≤ Int32.toNatClampNeg a1 then ((jx (P := oP P) kk (Eq.trans (if_neg c1) (Eq.trans (if_pos c2) (Eq.trans (if_pos c3) (Eq.trans (if_neg c4) (if_pos c5))))))).elim else V_iast (tat ok_X9_sheet_0 (i := 22) (q := 37) rfl rfl) rfl c5 <|
    V_iconst (tat ok_X9_sheet_0 (i := 23) (q := 38) rfl rfl) ic_0 <|
    V_istore (lv' := [(4, .int 0), (0, .ref 33), (1, .int a1), (2, .int a2), (3, .int a3)]) (tat ok_X9_sheet_0 (i := 24) (q := 40) rfl rfl) (Nat.le_of_ble_eq_true rfl) rfl <|
    V_pick [1, 2, 3, 4, 0] rfl (V_X9_sheet_40 rfl hr (jx (P := oP P) kk (Eq.trans (if_neg c1) (Eq.trans (if_pos c2) (Eq.trans (if_pos c3) (Eq.trans (if_neg c4) (if_neg c5)))))))))) (fun c3 => V_bipush (tat ok_X9_sheet_0 (i := 11) (q := 22) rfl rfl) bp_m14 <|
    V_iret (tat ok_X9_sheet_0 (i := 12) (q := 23) rfl rfl) _ rfl (nar_int _) (hr ((-14), I) (jx (P := oP P) kk (Eq.trans (if_neg c1) (Eq.trans (if_pos c2) (if_neg c3))))) ⟨(Nat.le_of_ble_eq_true rfl), (Nat.le_of_ble_eq_true rfl)⟩)) (fun c2 => V_X9_sheet_14  hr (jx (P := oP P) kk (Eq.trans (if_neg c1) (if_neg c2)))))
