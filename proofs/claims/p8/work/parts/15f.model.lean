def F_X9_isNew_60 (L : WL) (a1 : Int64) : Option (Int32 × WL) :=
  some (0, L)
theorem V_X9_isNew_60  {I : WI} {L : WL} {a1 : Int64}  {P : (Int32 × WL) → Prop} {t : Tg} (hr : ∀ v, P v → t = (some (.int (p1 v)), ly0, I, (p2 v), R0)) (kk : oP P (F_X9_isNew_60 L a1)) : V (zM x_X9_isNew 1 0 0 t) 60 [(0, .ref 33), (1, .long a1)] [] ly0 I L R0 0 0 :=
  V_iconst (tat ok_X9_isNew_0 (i := 37) (q := 61) rfl rfl) ic_0 <|
    V_iret (tat ok_X9_isNew_0 (i := 38) (q := 62) rfl rfl) _ rfl rfl (hr (0, L) (jx (P := oP P) kk rfl)) ⟨(Nat.le_of_ble_eq_true rfl), (Nat.le_of_ble_eq_true rfl)⟩
def F_X9_isNew_6 (L : WL) (a1 : Int64) (a3 : Int64) (a5 : Int32) : Option (Int32 × WL) :=
  (lpp (fun x => (F_X9_isNew_6_1 L a1 (p1 x) (p2 x))) 4294967296 (a3, a5)).bind (Sum.elim (fun r => some (r)) (fun q => (F_X9_isNew_60 L a1)))
theorem V_X9_isNew_6  {I : WI} {L : WL} {a1 : Int64} {a3 : Int64} {a5 : Int32} {P : (Int32 × WL) → Prop} {t : Tg} (hr : ∀ v, P v → t = (some (.int (p1 v)), ly0, I, (p2 v), R0)) (kk : oP P (F_X9_isNew_6 L a1 a3 a5)) : V (zM x_X9_isNew 1 0 0 t) 6 [(0, .ref 33), (1, .long a1), (3, .long a3), (5, .int a5)] [] ly0 I L R0 0 0 :=
  V_lpp (fun x => (F_X9_isNew_6_1 L a1 (p1 x) (p2 x))) (fun x => V (zM x_X9_isNew 1 0 0 t) 6 [(0, .ref 33), (1, .long a1), (3, .long (p1 x)), (5, .int (p2 x))] [] ly0 I L R0 0 0) (Sum.elim (fun r => P (r)) (fun x => oP P ((F_X9_isNew_60 L a1)))) (s := (a3, a5)) (fun x e0 => V_X9_isNew_6_1 (P := Sum.elim (Sum.elim (fun r => P (r)) (fun x => oP P ((F_X9_isNew_60 L a1)))) (fun x => V (zM x_X9_isNew 1 0 0 t) 6 [(0, .ref 33), (1, .long a1), (3, .long (p1 x)), (5, .int (p2 x))] [] ly0 I L R0 0 0))  (fun v e => hr v e) (fun x e => V_X9_isNew_60  hr e) (fun _ e => e) e0) (oP_sum kk)
def F_X9_isNew (L : WL) (a1 : Int64) : Option (Int32 × WL) :=
  (F_X9_isNew_6 L a1 a1 63)
theorem V_X9_isNew  {I : WI} {L : WL} {a1 : Int64}  {P : (Int32 × WL) → Prop} {t : Tg} (hr : ∀ v, P v → t = (some (.int (p1 v)), ly0, I, (p2 v), R0)) (kk : oP P (F_X9_isNew L a1)) : V (zM x_X9_isNew 1 0 0 t) 0 [(0, .ref 33), (1, .long a1)] [] ly0 I L R0 0 0 :=
  V_lload_n (tat ok_X9_isNew_0 (i := 0) (q := 1) rfl rfl) 1 rfl rfl <|
    V_lstore_n (lv' := [(3, .long a1), (0, .ref 33), (1, .long a1)]) (tat ok_X9_isNew_0 (i := 1) (q := 2) rfl rfl) rfl (Nat.le_of_ble_eq_true rfl) rfl <|
    V_bipush (tat ok_X9_isNew_0 (i := 2) (q := 4) rfl rfl) bp_63 <|
    V_istore (lv' := [(5, .int 63), (3, .long a1), (0, .ref 33), (1, .long a1)]) (tat ok_X9_isNew_0 (i := 3) (q := 6) rfl rfl) (Nat.le_of_ble_eq_true rfl) rfl <|
    V_pick [2, 3, 1, 0] rfl (V_X9_isNew_6  hr (jx (P := oP P) kk rfl))
theorem ct_X9_isNew  (I : WI) (L : WL) (a1 : Int64)  {v : (Int32 × WL)} (h : (F_X9_isNew L a1) = some v) : Ct x_X9_isNew 1 [.ref 33, .long a1] ly0 I L R0 0 0 (some (.int (p1 v)), ly0, I, (p2 v), R0) :=
  Ct_of_V mo_X9_isNew.1 (Nat.le_of_ble_eq_true rfl) (V_X9_isNew (P := fun x => x = v)  (fun _ e => by rw [e]) (by rw [h]; exact rfl))
def F_X9_power_20_1 (I : WI) (L : WL) (a1 : Int32) (a2 : Int32) : Option WL :=
  (if a2 < 0 ∨ 64 ≤ Int32.toNatClampNeg a2 then none else some (u2 L 40 (Int32.toNatClampNeg a2) 0))
theorem V_X9_power_20_1  {I : WI} {L : WL} {a1 : Int32} {a2 : Int32}  {P : WL → Prop} {t : Tg} (hk : ∀ x : WL, P x → V (zM x_X9_power 4 0 0 t) 14 [(0, .ref 33), (1, .int a1), (2, .int (a2 + 1))] [] ly0 I x R0 0 0) (kk : oP P (F_X9_power_20_1 I L a1 a2)) : V (zM x_X9_power 4 0 0 t) 20 [(0, .ref 33), (1, .int a1), (2, .int a2)] [] ly0 I L R0 0 0 :=
  V_aload_n (tat ok_X9_power_0 (i := 13) (q := 21) rfl rfl) 0 rfl rfl <|
    V_getR (tat ok_X9_power_0 (i := 14) (q := 24) rfl rfl) fk_X9_29 rfl rfl <|
    V_iload_n (tat ok_X9_power_0 (i := 15) (q := 25) rfl rfl) 2 rfl rfl <|
    V_lconst (v := 0) (tat ok_X9_power_0 (i := 16) (q := 26) rfl rfl) rfl <|
    (if c2 : a2 < 0 ∨ 64 ≤ Int32.toNatClampNeg a2 then ((jx (P := oP P) kk (if_pos c2))).elim else V_last (tat ok_X9_power_0 (i := 17) (q := 27) rfl rfl) rfl c2 <|
    V_iinc (v := (a2 + 1)) (lv' := [(2, .int (a2 + 1)), (0, .ref 33), (1, .int a1)]) (tat ok_X9_power_0 (i := 18) (q := 30) rfl rfl) 2 rfl (ia ic_1) (Nat.le_of_ble_eq_true rfl) rfl <|
    V_goto (tat ok_X9_power_0 (i := 19) (q := 33) rfl rfl) rfl <|
    V_pick [1, 2, 0] rfl (hk (u2 L 40 (Int32.toNatClampNeg a2) 0) (jx (P := oP P) kk (if_neg c2))))
def F_X9_power_47_3 (I : WI) (L : WL) (a1 : Int32) (a3 : Int32) (a2 : Int32) (a4 : Int32) : Option ((Int32 × WL) ⊕ (Int32 × Int32 × WL)) :=
  (Option.bind (F_X9_isAct I a3 a4) (fun v4 => (if v4 = 0 then some (.inl (a2, L)) else (Option.bind (F_X9_isNew L (F_X9_actSet I a3 a4)) (fun v6 => some (.inr ((a2 + (F_X9_flag (p1 v6))), (a4 + 1), (p2 v6))))))))
theorem V_X9_power_47_3  {I : WI} {L : WL} {a1 : Int32} {a3 : Int32} {a2 : Int32} {a4 : Int32} {P : ((Int32 × WL) ⊕ (Int32 × Int32 × WL)) → Prop} {t : Tg} (he : ∀ x : (Int32 × WL), P (.inl x) → V (zM x_X9_power 4 0 0 t) 80 [(0, .ref 33), (1, .int a1), (2, .int (p1 x)), (3, .int a3)] [] ly0 I (p2 x) R0 0 0) (hk : ∀ x : (Int32 × Int32 × WL), P (.inr x) → V (zM x_X9_power 4 0 0 t) 47 [(0, .ref 33), (1, .int a1), (2, .int (p1 x)), (3, .int a3), (4, .int (p1 (p2 x)))] [] ly0 I (p2 (p2 x)) R0 0 0) (kk : oP P (F_X9_power_47_3 I L a1 a3 a2 a4)) : V (zM x_X9_power 4 0 0 t) 47 [(0, .ref 33), (1, .int a1), (2, .int a2), (3, .int a3), (4, .int a4)] [] ly0 I L R0 0 0 :=
  V_aload_n (tat ok_X9_power_0 (i := 31) (q := 48) rfl rfl) 0 rfl rfl <|
    V_iload_n (tat ok_X9_power_0 (i := 32) (q := 49) rfl rfl) 3 rfl rfl <|
    V_iload (tat ok_X9_power_0 (i := 33) (q := 51) rfl rfl) 4 rfl <|
    oP_case (jx (P := oP P) kk rfl) (fun v4 e4 _ => V_cv2 (ct_X9_isAct I L a3 a4  e4) mo_X9_isAct (tat ok_X9_power_0 (i := 34) (q := 54) rfl rfl) ml_X9_214 rfl ⟨by decide, _, rfl, rfl⟩ ⟨(Nat.le_of_ble_eq_true rfl), (Nat.le_of_ble_eq_true rfl)⟩ ⟨(Nat.le_of_ble_eq_true rfl), (Nat.le_of_ble_eq_true rfl)⟩ (Nat.le_of_ble_eq_true rfl) <|
    V_if_eq (tat ok_X9_power_0 (i := 35) (q := 57) rfl rfl) rfl (fun c5 => V_pick [0, 1, 2, 3] rfl (he (a2, L) (jx (P := oP P) kk (Eq.trans (ob e4) (if_pos c5))))) (fun c5 => V_iload_n (tat ok_X9_power_0 (i := 36) (q := 58) rfl rfl) 2 rfl rfl <|
    V_aload_n (tat ok_X9_power_0 (i := 37) (q := 59) rfl rfl) 0 rfl rfl <|
    V_aload_n (tat ok_X9_power_0 (i := 38) (q := 60) rfl rfl) 0 rfl rfl <|
    V_iload_n (tat ok_X9_power_0 (i := 39) (q := 61) rfl rfl) 3 rfl rfl <|
    V_iload (tat ok_X9_power_1 (i := 0) (q := 63) rfl rfl) 4 rfl <|
    V_cv2 (ct_X9_actSet I L a3 a4 ) mo_X9_actSet (tat ok_X9_power_1 (i := 1) (q := 66) rfl rfl) ml_X9_217 rfl ⟨by decide, _, rfl, rfl⟩ ⟨(Nat.le_of_ble_eq_true rfl), (Nat.le_of_ble_eq_true rfl)⟩ ⟨(Nat.le_of_ble_eq_true rfl), (Nat.le_of_ble_eq_true rfl)⟩ (Nat.le_of_ble_eq_true rfl) <|
    oP_case (jx (P := oP P) kk (Eq.trans (ob e4) (if_neg c5))) (fun v6 e6 _ => V_cv1 (ct_X9_isNew I L (F_X9_actSet I a3 a4)  e6) mo_X9_isNew (tat ok_X9_power_1 (i := 2) (q := 69) rfl rfl) ml_X9_284 rfl ⟨by decide, _, rfl, rfl⟩ ⟨(Nat.le_of_ble_eq_true rfl), (Nat.le_of_ble_eq_true rfl)⟩ ⟨(Nat.le_of_ble_eq_true rfl), (Nat.le_of_ble_eq_true rfl)⟩ (Nat.le_of_ble_eq_true rfl) <|
    V_cs1 (ct_X9_flag I (p2 v6) (p1 v6) ) mo_X9_flag (tat ok_X9_power_1 (i := 3) (q := 72) rfl rfl) ml_X9_200 ⟨(Nat.le_of_ble_eq_true rfl), (Nat.le_of_ble_eq_true rfl)⟩ ⟨(Nat.le_of_ble_eq_true rfl), (Nat.le_of_ble_eq_true rfl)⟩ (Nat.le_of_ble_eq_true rfl) <|
    V_iadd (tat ok_X9_power_1 (i := 4) (q := 73) rfl rfl) <|
    V_istore_n (lv' := [(2, .int (a2 + (F_X9_flag (p1 v6)))), (0, .ref 33), (1, .int a1), (3, .int a3), (4, .int a4)]) (tat ok_X9_power_1 (i := 5) (q := 74) rfl rfl) rfl (Nat.le_of_ble_eq_true rfl) rfl <|
    V_iinc (v := (a4 + 1)) (lv' := [(4, .int (a4 + 1)), (2, .int (a2 + (F_X9_flag (p1 v6)))), (0, .ref 33), (1, .int a1), (3, .int a3)]) (tat ok_X9_power_1 (i := 6) (q := 77) rfl rfl) 4 rfl (ia ic_1) (Nat.le_of_ble_eq_true rfl) rfl <|
    V_goto (tat ok_X9_power_1 (i := 7) (q := 80) rfl rfl) rfl <|
    V_pick [2, 3, 1, 4, 0] rfl (hk ((a2 + (F_X9_flag (p1 v6))), (a4 + 1), (p2 v6)) (jx (P := oP P) kk (Eq.trans (ob e4) (Eq.trans (if_neg c5) (ob e6))))))))
def F_X9_power_80_2 (I : WI) (L : WL) (a1 : Int32) (a2 : Int32) (a3 : Int32) : Option ((Int32 × WL) ⊕ (Int32 × Int32 × WL)) :=
  some (.inr (a2, (a3 + 1), L))
theorem V_X9_power_80_2  {I : WI} {L : WL} {a1 : Int32} {a2 : Int32} {a3 : Int32} {P : ((Int32 × WL) ⊕ (Int32 × Int32 × WL)) → Prop} {t : Tg} (he : ∀ x : (Int32 × WL), P (.inl x) → V (zM x_X9_power 4 0 0 t) 86 [(0, .ref 33), (1, .int a1), (2, .int (p1 x))] [] ly0 I (p2 x) R0 0 0) (hk : ∀ x : (Int32 × Int32 × WL), P (.inr x) → V (zM x_X9_power 4 0 0 t) 37 [(0, .ref 33), (1, .int a1), (2, .int (p1 x)), (3, .int (p1 (p2 x)))] [] ly0 I (p2 (p2 x)) R0 0 0) (kk : oP P (F_X9_power_80_2 I L a1 a2 a3)) : V (zM x_X9_power 4 0 0 t) 80 [(0, .ref 33), (1, .int a1), (2, .int a2), (3, .int a3)] [] ly0 I L R0 0 0 :=
  V_iinc (v := (a3 + 1)) (lv' := [(3, .int (a3 + 1)), (0, .ref 33), (1, .int a1), (2, .int a2)]) (tat ok_X9_power_1 (i := 8) (q := 83) rfl rfl) 3 rfl (ia ic_1) (Nat.le_of_ble_eq_true rfl) rfl <|
    V_goto (tat ok_X9_power_1 (i := 9) (q := 86) rfl rfl) rfl <|
    V_pick [1, 2, 3, 0] rfl (hk (a2, (a3 + 1), L) (jx (P := oP P) kk rfl))
def F_X9_power_47_2 (I : WI) (L : WL) (a1 : Int32) (a2 : Int32) (a3 : Int32) (a4 : Int32) : Option ((Int32 × WL) ⊕ (Int32 × Int32 × WL)) :=
  (lpp (fun x => (F_X9_power_47_3 I (p2 (p2 x)) a1 a3 (p1 x) (p1 (p2 x)))) 4294967296 (a2, a4, L)).bind (fun q => (F_X9_power_80_2 I (p2 q) a1 (p1 q) a3))
theorem V_X9_power_47_2  {I : WI} {L : WL} {a1 : Int32} {a2 : Int32} {a3 : Int32} {a4 : Int32} {P : ((Int32 × WL) ⊕ (Int32 × Int32 × WL)) → Prop} {t : Tg} (hb4 : bz a4 = a4) (he : ∀ x : (Int32 × WL), P (.inl x) → V (zM x_X9_power 4 0 0 t) 86 [(0, .ref 33), (1, .int a1), (2, .int (p1 x))] [] ly0 I (p2 x) R0 0 0) (hk : ∀ x : (Int32 × Int32 × WL), P (.inr x) → V (zM x_X9_power 4 0 0 t) 37 [(0, .ref 33), (1, .int a1), (2, .int (p1 x)), (3, .int (p1 (p2 x)))] [] ly0 I (p2 (p2 x)) R0 0 0) (kk : oP P (F_X9_power_47_2 I L a1 a2 a3 a4)) : V (zM x_X9_power 4 0 0 t) 47 [(0, .ref 33), (1, .int a1), (2, .int a2), (3, .int a3), (4, .int a4)] [] ly0 I L R0 0 0 :=
  V_lpp (fun x => (F_X9_power_47_3 I (p2 (p2 x)) a1 a3 (p1 x) (p1 (p2 x)))) (fun x => V (zM x_X9_power 4 0 0 t) 47 [(0, .ref 33), (1, .int a1), (2, .int (p1 x)), (3, .int a3), (4, .int (p1 (p2 x)))] [] ly0 I (p2 (p2 x)) R0 0 0) (fun x => oP P ((F_X9_power_80_2 I (p2 x) a1 (p1 x) a3))) (s := (a2, a4, L)) (fun x e0 => V_X9_power_47_3 (P := Sum.elim (fun x => oP P ((F_X9_power_80_2 I (p2 x) a1 (p1 x) a3))) (fun x => V (zM x_X9_power 4 0 0 t) 47 [(0, .ref 33), (1, .int a1), (2, .int (p1 x)), (3, .int a3), (4, .int (p1 (p2 x)))] [] ly0 I (p2 (p2 x)) R0 0 0))  (fun x e => V_X9_power_80_2  he hk e) (fun _ e => e) e0) (oP_bind (f := fun q => _) kk)
def F_X9_power_37_2 (I : WI) (L : WL) (a1 : Int32) (a2 : Int32) (a3 : Int32) : Option ((Int32 × WL) ⊕ (Int32 × Int32 × WL)) :=
  (if (a1 + 1) < a3 then some (.inl (a2, L)) else (F_X9_power_47_2 I L a1 a2 a3 0))
theorem V_X9_power_37_2  {I : WI} {L : WL} {a1 : Int32} {a2 : Int32} {a3 : Int32} {P : ((Int32 × WL) ⊕ (Int32 × Int32 × WL)) → Prop} {t : Tg} (he : ∀ x : (Int32 × WL), P (.inl x) → V (zM x_X9_power 4 0 0 t) 86 [(0, .ref 33), (1, .int a1), (2, .int (p1 x))] [] ly0 I (p2 x) R0 0 0) (hk : ∀ x : (Int32 × Int32 × WL), P (.inr x) → V (zM x_X9_power 4 0 0 t) 37 [(0, .ref 33), (1, .int a1), (2, .int (p1 x)), (3, .int (p1 (p2 x)))] [] ly0 I (p2 (p2 x)) R0 0 0) (kk : oP P (F_X9_power_37_2 I L a1 a2 a3)) : V (zM x_X9_power 4 0 0 t) 37 [(0, .ref 33), (1, .int a1), (2, .int a2), (3, .int a3)] [] ly0 I L R0 0 0 :=
  V_iload_n (tat ok_X9_power_0 (i := 24) (q := 38) rfl rfl) 3 rfl rfl <|
    V_iload_n (tat ok_X9_power_0 (i := 25) (q := 39) rfl rfl) 1 rfl rfl <|
    V_iconst (tat ok_X9_power_0 (i := 26) (q := 40) rfl rfl) ic_1 <|
    V_iadd (tat ok_X9_power_0 (i := 27) (q := 41) rfl rfl) <|
    V_icmp_gt (tat ok_X9_power_0 (i := 28) (q := 44) rfl rfl) rfl (fun c3 => V_pick [0, 1, 2] rfl (he (a2, L) (jx (P := oP P) kk (if_pos c3)))) (fun c3 => V_iconst (tat ok_X9_power_0 (i := 29) (q := 45) rfl rfl) ic_0 <|
    V_istore (lv' := [(4, .int 0), (0, .ref 33), (1, .int a1), (2, .int a2), (3, .int a3)]) (tat ok_X9_power_0 (i := 30) (q := 47) rfl rfl) (Nat.le_of_ble_eq_true rfl) rfl <|
    V_pick [1, 2, 3, 4, 0] rfl (V_X9_power_47_2 rfl he hk (jx (P := oP P) kk (if_neg c3))))
def F_X9_power_86 (I : WI) (L : WL) (a1 : Int32) (a2 : Int32) : Option (Int32 × WL) :=
  some (a2, L)
theorem V_X9_power_86  {I : WI} {L : WL} {a1 : Int32} {a2 : Int32} {P : (Int32 × WL) → Prop} {t : Tg} (hr : ∀ v, P v → t = (some (.int (p1 v)), ly0, I, (p2 v), R0)) (kk : oP P (F_X9_power_86 I L a1 a2)) : V (zM x_X9_power 4 0 0 t) 86 [(0, .ref 33), (1, .int a1), (2, .int a2)] [] ly0 I L R0 0 0 :=
  V_iload_n (tat ok_X9_power_1 (i := 10) (q := 87) rfl rfl) 2 rfl rfl <|
    V_iret (tat ok_X9_power_1 (i := 11) (q := 88) rfl rfl) _ rfl (nar_int _) (hr (a2, L) (jx (P := oP P) kk rfl)) ⟨(Nat.le_of_ble_eq_true rfl), (Nat.le_of_ble_eq_true rfl)⟩
def F_X9_power_37 (I : WI) (L : WL) (a1 : Int32) (a2 : Int32) (a3 : Int32) : Option (Int32 × WL) :=
  (lpp (fun x => (F_X9_power_37_2 I (p2 (p2 x)) a1 (p1 x) (p1 (p2 x)))) 4294967296 (a2, a3, L)).bind (fun q => (F_X9_power_86 I (p2 q) a1 (p1 q)))
theorem V_X9_power_37  {I : WI} {L : WL} {a1 : Int32} {a2 : Int32} {a3 : Int32} {P : (Int32 × WL) → Prop} {t : Tg} (hb2 : bz a2 = a2) (hb3 : bz a3 = a3) (hr : ∀ v, P v → t = (some (.int (p1 v)), ly0, I, (p2 v), R0)) (kk : oP P (F_X9_power_37 I L a1 a2 a3)) : V (zM x_X9_power 4 0 0 t) 37 [(0, .ref 33), (1, .int a1), (2, .int a2), (3, .int a3)] [] ly0 I L R0 0 0 :=
  V_lpp (fun x => (F_X9_power_37_2 I (p2 (p2 x)) a1 (p1 x) (p1 (p2 x)))) (fun x => V (zM x_X9_power 4 0 0 t) 37 [(0, .ref 33), (1, .int a1), (2, .int (p1 x)), (3, .int (p1 (p2 x)))] [] ly0 I (p2 (p2 x)) R0 0 0) (fun x => oP P ((F_X9_power_86 I (p2 x) a1 (p1 x)))) (s := (a2, a3, L)) (fun x e0 => V_X9_power_37_2 (P := Sum.elim (fun x => oP P ((F_X9_power_86 I (p2 x) a1 (p1 x)))) (fun x => V (zM x_X9_power 4 0 0 t) 37 [(0, .ref 33), (1, .int a1), (2, .int (p1 x)), (3, .int (p1 (p2 x)))] [] ly0 I (p2 (p2 x)) R0 0 0))  (fun x e => V_X9_power_86  hr e) (fun _ e => e) e0) (oP_bind (f := fun q => _) kk)
def F_X9_power_33 (I : WI) (L : WL) (a1 : Int32) : Option (Int32 × WL) :=
  (F_X9_power_37 I L a1 0 0)
theorem V_X9_power_33  {I : WI} {L : WL} {a1 : Int32}  {P : (Int32 × WL) → Prop} {t : Tg} (hr : ∀ v, P v → t = (some (.int (p1 v)), ly0, I, (p2 v), R0)) (kk : oP P (F_X9_power_33 I L a1)) : V (zM x_X9_power 4 0 0 t) 33 [(0, .ref 33), (1, .int a1)] [] ly0 I L R0 0 0 :=
  V_iconst (tat ok_X9_power_0 (i := 20) (q := 34) rfl rfl) ic_0 <|
    V_istore_n (lv' := [(2, .int 0), (0, .ref 33), (1, .int a1)]) (tat ok_X9_power_0 (i := 21) (q := 35) rfl rfl) rfl (Nat.le_of_ble_eq_true rfl) rfl <|
    V_iconst (tat ok_X9_power_0 (i := 22) (q := 36) rfl rfl) ic_0 <|
    V_istore_n (lv' := [(3, .int 0), (2, .int 0), (0, .ref 33), (1, .int a1)]) (tat ok_X9_power_0 (i := 23) (q := 37) rfl rfl) rfl (Nat.le_of_ble_eq_true rfl) rfl <|
    V_pick [2, 3, 1, 0] rfl (V_X9_power_37 rfl rfl hr (jx (P := oP P) kk rfl))
def F_X9_power_14 (I : WI) (L : WL) (a1 : Int32) (a2 : Int32) : Option (Int32 × WL) :=
  (frp0 (fun i x => (F_X9_power_20_1 I x a1 i)) 64 (fu a2 64) a2 L).bind (fun q => (F_X9_power_33 I (p2 q) a1))
theorem V_X9_power_14  {I : WI} {L : WL} {a1 : Int32} {a2 : Int32} {P : (Int32 × WL) → Prop} {t : Tg} (hb2 : bz a2 = a2) (hr : ∀ v, P v → t = (some (.int (p1 v)), ly0, I, (p2 v), R0)) (kk : oP P (F_X9_power_14 I L a1 a2)) : V (zM x_X9_power 4 0 0 t) 14 [(0, .ref 33), (1, .int a1), (2, .int a2)] [] ly0 I L R0 0 0 :=
  V_frp0 (fun i x => (F_X9_power_20_1 I x a1 i)) 64 (fun i x => V (zM x_X9_power 4 0 0 t) 14 [(0, .ref 33), (1, .int a1), (2, .int i)] [] ly0 I x R0 0 0) (fun i x => oP P ((F_X9_power_33 I x a1))) (c := a2) (s := L) (fun i x kx kb => V_iload_n (tat ok_X9_power_0 (i := 10) (q := 15) rfl rfl) 2 rfl rfl <|
    V_bipush (tat ok_X9_power_0 (i := 11) (q := 17) rfl rfl) bp_64 <|
    V_icmp_ge (tat ok_X9_power_0 (i := 12) (q := 20) rfl rfl) rfl (fun c0 => V_pick [0, 1] rfl (V_X9_power_33  hr (kx c0))) (fun c0 => V_X9_power_20_1 (P := (fun x => (fun i x => V (zM x_X9_power 4 0 0 t) 14 [(0, .ref 33), (1, .int a1), (2, .int i)] [] ly0 I x R0 0 0) (i + 1) x))  (fun _ e => e) (kb c0))) (oP_bind (f := fun q => _) kk)
def F_X9_power (I : WI) (L : WL) (a1 : Int32) : Option (Int32 × WL) :=
  (if (F_X9_in (Int32.toInt64 a1) 0 1) = 0 then some ((-1), L) else (F_X9_power_14 I L a1 0))
theorem V_X9_power  {I : WI} {L : WL} {a1 : Int32}  {P : (Int32 × WL) → Prop} {t : Tg} (hr : ∀ v, P v → t = (some (.int (p1 v)), ly0, I, (p2 v), R0)) (kk : oP P (F_X9_power I L a1)) : V (zM x_X9_power 4 0 0 t) 0 [(0, .ref 33), (1, .int a1)] [] ly0 I L R0 0 0 :=
  V_iload_n (tat ok_X9_power_0 (i := 0) (q := 1) rfl rfl) 1 rfl rfl <|
    V_i2l (tat ok_X9_power_0 (i := 1) (q := 2) rfl rfl) <|
    V_lconst (v := 0) (tat ok_X9_power_0 (i := 2) (q := 3) rfl rfl) rfl <|
    V_lconst (v := 1) (tat ok_X9_power_0 (i := 3) (q := 4) rfl rfl) rfl <|
    V_cs3 (ct_X9_in I L (Int32.toInt64 a1) 0 1 ) mo_X9_in (tat ok_X9_power_0 (i := 4) (q := 7) rfl rfl) ml_X9_97 ⟨(Nat.le_of_ble_eq_true rfl), (Nat.le_of_ble_eq_true rfl)⟩ ⟨(Nat.le_of_ble_eq_true rfl), (Nat.le_of_ble_eq_true rfl)⟩ (Nat.le_of_ble_eq_true rfl) <|
    V_if_ne (tat ok_X9_power_0 (i := 5) (q := 10) rfl rfl) rfl (fun c1 => V_iconst (tat ok_X9_power_0 (i := 8) (q := 13) rfl rfl) ic_0 <|
    V_istore_n (lv' := [(2, .int 0), (0, .ref 33), (1, .int a1)]) (tat ok_X9_power_0 (i := 9) (q := 14) rfl rfl) rfl (Nat.le_of_ble_eq_true rfl) rfl <|
    V_pick [1, 2, 0] rfl (V_X9_power_14 rfl hr (jx (P := oP P) kk (if_neg c1)))) (fun c1 => V_iconst (tat ok_X9_power_0 (i := 6) (q := 11) rfl rfl) ic_m1 <|
    V_iret (tat ok_X9_power_0 (i := 7) (q := 12) rfl rfl) _ rfl (nar_int _) (hr ((-1), L) (jx (P := oP P) kk (if_pos c1))) ⟨(Nat.le_of_ble_eq_true rfl), (Nat.le_of_ble_eq_true rfl)⟩)
theorem ct_X9_power  (I : WI) (L : WL) (a1 : Int32)  {v : (Int32 × WL)} (h : (F_X9_power I L a1) = some v) : Ct x_X9_power 4 [.ref 33, .int a1] ly0 I L R0 0 0 (some (.int (p1 v)), ly0, I, (p2 v), R0) :=
  Ct_of_V mo_X9_power.1 (Nat.le_of_ble_eq_true rfl) (V_X9_power (P := fun x => x = v)  (fun _ e => by rw [e]) (by rw [h]; exact rfl))
def F_X9_isMove_30 (I : WI) (a1 : Int32) (a2 : Int32) (s0 : Int32) : Int32 :=
  s0
theorem V_X9_isMove_30  {I : WI} {L : WL} {a1 : Int32} {a2 : Int32} {s0 : Int32} {P : Int32 → Prop} {t : Tg} (hs0 : bz s0 = s0) (hr : ∀ v, P v → t = (some (.int v), ly0, I, L, R0)) (kk : P (F_X9_isMove_30 I a1 a2 s0)) : V (zM x_X9_isMove 1 0 0 t) 30 [(0, .ref 33), (1, .int a1), (2, .int a2)] [.int s0] ly0 I L R0 0 0 :=
  V_iret (tat ok_X9_isMove_0 (i := 15) (q := 31) rfl rfl) _ rfl (bz_nf hs0).1 (hr s0 (jx (P := P) kk rfl)) ⟨(Nat.le_of_ble_eq_true rfl), (Nat.le_of_ble_eq_true rfl)⟩
def F_X9_isMove_25 (I : WI) (a1 : Int32) (a2 : Int32) : Int32 :=
  (F_X9_isMove_30 I a1 a2 1)
theorem V_X9_isMove_25  {I : WI} {L : WL} {a1 : Int32} {a2 : Int32}  {P : Int32 → Prop} {t : Tg} (hr : ∀ v, P v → t = (some (.int v), ly0, I, L, R0)) (kk : P (F_X9_isMove_25 I a1 a2)) : V (zM x_X9_isMove 1 0 0 t) 25 [(0, .ref 33), (1, .int a1), (2, .int a2)] [] ly0 I L R0 0 0 :=
  V_iconst (tat ok_X9_isMove_0 (i := 12) (q := 26) rfl rfl) ic_1 <|
    V_goto (tat ok_X9_isMove_0 (i := 13) (q := 29) rfl rfl) rfl <|
    V_X9_isMove_30 rfl hr (jx (P := P) kk rfl)
def F_X9_isMove_22 (I : WI) (a1 : Int32) (a2 : Int32) (s0 : Int32) (s1 : Int32) : Int32 :=
  (if s0 ≤ s1 then (F_X9_isMove_30 I a1 a2 0) else (F_X9_isMove_25 I a1 a2))
theorem V_X9_isMove_22  {I : WI} {L : WL} {a1 : Int32} {a2 : Int32} {s0 : Int32} {s1 : Int32} {P : Int32 → Prop} {t : Tg} (hr : ∀ v, P v → t = (some (.int v), ly0, I, L, R0)) (kk : P (F_X9_isMove_22 I a1 a2 s0 s1)) : V (zM x_X9_isMove 1 0 0 t) 22 [(0, .ref 33), (1, .int a1), (2, .int a2)] [.int s0, .int s1] ly0 I L R0 0 0 :=
  V_icmp_ge (tat ok_X9_isMove_0 (i := 11) (q := 25) rfl rfl) rfl (fun c3 => V_iconst (tat ok_X9_isMove_0 (i := 14) (q := 30) rfl rfl) ic_0 <|
    V_X9_isMove_30 rfl hr (jx (P := P) kk (if_pos c3))) (fun c3 => V_X9_isMove_25  hr (jx (P := P) kk (if_neg c3)))
def F_X9_isMove (I : WI) (a1 : Int32) (a2 : Int32) : Int32 :=
  (if a2 = 8 then (F_X9_isMove_25 I a1 a2) else (if a1 = 0 then (F_X9_isMove_22 I a1 a2 (I 33 1) a2) else (F_X9_isMove_22 I a1 a2 (I 33 0) a2)))
theorem V_X9_isMove  {I : WI} {L : WL} {a1 : Int32} {a2 : Int32}  {P : Int32 → Prop} {t : Tg} (hr : ∀ v, P v → t = (some (.int v), ly0, I, L, R0)) (kk : P (F_X9_isMove I a1 a2)) : V (zM x_X9_isMove 1 0 0 t) 0 [(0, .ref 33), (1, .int a1), (2, .int a2)] [] ly0 I L R0 0 0 :=
  V_iload_n (tat ok_X9_isMove_0 (i := 0) (q := 1) rfl rfl) 2 rfl rfl <|
    V_bipush (tat ok_X9_isMove_0 (i := 1) (q := 3) rfl rfl) bp_8 <|
    V_icmp_eq (tat ok_X9_isMove_0 (i := 2) (q := 6) rfl rfl) rfl (fun c1 => V_X9_isMove_25  hr (jx (P := P) kk (if_pos c1))) (fun c1 => V_iload_n (tat ok_X9_isMove_0 (i := 3) (q := 7) rfl rfl) 2 rfl rfl <|
    V_iload_n (tat ok_X9_isMove_0 (i := 4) (q := 8) rfl rfl) 1 rfl rfl <|
    V_if_eq (tat ok_X9_isMove_0 (i := 5) (q := 11) rfl rfl) rfl (fun c2 => V_aload_n (tat ok_X9_isMove_0 (i := 9) (q := 19) rfl rfl) 0 rfl rfl <|
    V_getI (tat ok_X9_isMove_0 (i := 10) (q := 22) rfl rfl) fk_X9_77 rfl <|
    V_X9_isMove_22  hr (jx (P := P) kk (Eq.trans (if_neg c1) (if_pos c2)))) (fun c2 => V_aload_n (tat ok_X9_isMove_0 (i := 6) (q := 12) rfl rfl) 0 rfl rfl <|
    V_getI (tat ok_X9_isMove_0 (i := 7) (q := 15) rfl rfl) fk_X9_74 rfl <|
    V_goto (tat ok_X9_isMove_0 (i := 8) (q := 18) rfl rfl) rfl <|
    V_X9_isMove_22  hr (jx (P := P) kk (Eq.trans (if_neg c1) (if_neg c2)))))
theorem ct_X9_isMove  (I : WI) (L : WL) (a1 : Int32) (a2 : Int32)  : Ct x_X9_isMove 1 [.ref 33, .int a1, .int a2] ly0 I L R0 0 0 (some (.int (F_X9_isMove I a1 a2)), ly0, I, L, R0) :=
  Ct_of_V mo_X9_isMove.1 (Nat.le_of_ble_eq_true rfl) (V_X9_isMove (P := fun x => x = (F_X9_isMove I a1 a2))  (fun _ e => by rw [e]) rfl)
def F_X9_worthOf_116_1 (I : WI) (L : WL) (a1 : Int32) (a2 : Int32) (a3 : Int32) (a6 : Int32) (a7 : Int32) (a8 : Int32) (s0 : Int64) (s1 : Int64) : Option ((Int64 × Int32) ⊕ (Int64 × Int32 × Int32 × Int32)) :=
  some (.inr ((s1 ^^^ s0), a6, a7, (a8 + (-1))))
theorem V_X9_worthOf_116_1  {I : WI} {L : WL} {a1 : Int32} {a2 : Int32} {a3 : Int32} {a6 : Int32} {a7 : Int32} {a8 : Int32} {s0 : Int64} {s1 : Int64} {P : ((Int64 × Int32) ⊕ (Int64 × Int32 × Int32 × Int32)) → Prop} {t : Tg} (hb7 : bz a7 = a7) (he : ∀ x : (Int64 × Int32), P (.inl x) → V (zM x_X9_worthOf 3 0 0 t) 125 [(0, .ref 33), (1, .int a1), (2, .int a2), (3, .int a3), (4, .long (p1 x)), (7, .int (p2 x))] [] ly0 I L R0 0 0) (hk : ∀ x : (Int64 × Int32 × Int32 × Int32), P (.inr x) → V (zM x_X9_worthOf 3 0 0 t) 17 [(0, .ref 33), (1, .int a1), (2, .int a2), (3, .int a3), (4, .long (p1 x)), (6, .int (p1 (p2 x))), (7, .int (p1 (p2 (p2 x)))), (8, .int (p2 (p2 (p2 x))))] [] ly0 I L R0 0 0) (kk : oP P (F_X9_worthOf_116_1 I L a1 a2 a3 a6 a7 a8 s0 s1)) : V (zM x_X9_worthOf 3 0 0 t) 116 [(0, .ref 33), (1, .int a1), (2, .int a2), (3, .int a3), (6, .int a6), (7, .int a7), (8, .int a8)] [.long s0, .long s1] ly0 I L R0 0 0 :=
  V_lxor (tat ok_X9_worthOf_1 (i := 21) (q := 117) rfl rfl) <|
    V_lstore (lv' := [(4, .long (s1 ^^^ s0)), (0, .ref 33), (1, .int a1), (2, .int a2), (3, .int a3), (6, .int a6), (7, .int a7), (8, .int a8)]) (tat ok_X9_worthOf_1 (i := 22) (q := 119) rfl rfl) (Nat.le_of_ble_eq_true rfl) rfl <|
    V_iinc (v := (a8 + (-1))) (lv' := [(8, .int (a8 + (-1))), (4, .long (s1 ^^^ s0)), (0, .ref 33), (1, .int a1), (2, .int a2), (3, .int a3), (6, .int a6), (7, .int a7)]) (tat ok_X9_worthOf_1 (i := 23) (q := 122) rfl rfl) 7 rfl (ia ic_m1) (Nat.le_of_ble_eq_true rfl) rfl <|
    V_goto (tat ok_X9_worthOf_1 (i := 24) (q := 125) rfl rfl) rfl <|
    V_pick [2, 3, 4, 5, 1, 6, 7, 0] rfl (hk ((s1 ^^^ s0), a6, a7, (a8 + (-1))) (jx (P := oP P) kk rfl))
def F_X9_worthOf_115_1 (I : WI) (L : WL) (a1 : Int32) (a2 : Int32) (a3 : Int32) (a6 : Int32) (a7 : Int32) (a8 : Int32) (s0 : Int64) : Option ((Int64 × Int32) ⊕ (Int64 × Int32 × Int32 × Int32)) :=
  (F_X9_worthOf_116_1 I L a1 a2 a3 a6 a7 a8 0 s0)
theorem V_X9_worthOf_115_1  {I : WI} {L : WL} {a1 : Int32} {a2 : Int32} {a3 : Int32} {a6 : Int32} {a7 : Int32} {a8 : Int32} {s0 : Int64} {P : ((Int64 × Int32) ⊕ (Int64 × Int32 × Int32 × Int32)) → Prop} {t : Tg} (hb7 : bz a7 = a7) (he : ∀ x : (Int64 × Int32), P (.inl x) → V (zM x_X9_worthOf 3 0 0 t) 125 [(0, .ref 33), (1, .int a1), (2, .int a2), (3, .int a3), (4, .long (p1 x)), (7, .int (p2 x))] [] ly0 I L R0 0 0) (hk : ∀ x : (Int64 × Int32 × Int32 × Int32), P (.inr x) → V (zM x_X9_worthOf 3 0 0 t) 17 [(0, .ref 33), (1, .int a1), (2, .int a2), (3, .int a3), (4, .long (p1 x)), (6, .int (p1 (p2 x))), (7, .int (p1 (p2 (p2 x)))), (8, .int (p2 (p2 (p2 x))))] [] ly0 I L R0 0 0) (kk : oP P (F_X9_worthOf_115_1 I L a1 a2 a3 a6 a7 a8 s0)) : V (zM x_X9_worthOf 3 0 0 t) 115 [(0, .ref 33), (1, .int a1), (2, .int a2), (3, .int a3), (6, .int a6), (7, .int a7), (8, .int a8)] [.long s0] ly0 I L R0 0 0 :=
  V_lconst (v := 0) (tat ok_X9_worthOf_1 (i := 20) (q := 116) rfl rfl) rfl <|
    V_X9_worthOf_116_1 hb7 he hk (jx (P := oP P) kk rfl)
def F_X9_worthOf_107_1 (I : WI) (L : WL) (a1 : Int32) (a2 : Int32) (a3 : Int32) (a6 : Int32) (a7 : Int32) (a8 : Int32) (a10 : Int32) (s0 : Int32) (s2 : Int64) : Option ((Int64 × Int32) ⊕ (Int64 × Int32 × Int32 × Int32)) :=
  (F_X9_worthOf_116_1 I L a1 a2 a3 a6 a7 a8 (F_X9_actSet I s0 a10) s2)
theorem V_X9_worthOf_107_1  {I : WI} {L : WL} {a1 : Int32} {a2 : Int32} {a3 : Int32} {a6 : Int32} {a7 : Int32} {a8 : Int32} {a10 : Int32} {s0 : Int32} {s2 : Int64} {P : ((Int64 × Int32) ⊕ (Int64 × Int32 × Int32 × Int32)) → Prop} {t : Tg} (hb7 : bz a7 = a7) (hs0 : bz s0 = s0) (he : ∀ x : (Int64 × Int32), P (.inl x) → V (zM x_X9_worthOf 3 0 0 t) 125 [(0, .ref 33), (1, .int a1), (2, .int a2), (3, .int a3), (4, .long (p1 x)), (7, .int (p2 x))] [] ly0 I L R0 0 0) (hk : ∀ x : (Int64 × Int32 × Int32 × Int32), P (.inr x) → V (zM x_X9_worthOf 3 0 0 t) 17 [(0, .ref 33), (1, .int a1), (2, .int a2), (3, .int a3), (4, .long (p1 x)), (6, .int (p1 (p2 x))), (7, .int (p1 (p2 (p2 x)))), (8, .int (p2 (p2 (p2 x))))] [] ly0 I L R0 0 0) (kk : oP P (F_X9_worthOf_107_1 I L a1 a2 a3 a6 a7 a8 a10 s0 s2)) : V (zM x_X9_worthOf 3 0 0 t) 107 [(0, .ref 33), (1, .int a1), (2, .int a2), (3, .int a3), (6, .int a6), (7, .int a7), (8, .int a8), (10, .int a10)] [.int s0, .ref 33, .long s2] ly0 I L R0 0 0 :=
  V_iload (tat ok_X9_worthOf_1 (i := 17) (q := 109) rfl rfl) 7 rfl <|
    V_cv2 (ct_X9_actSet I L s0 a10 ) mo_X9_actSet (tat ok_X9_worthOf_1 (i := 18) (q := 112) rfl rfl) ml_X9_217 rfl ⟨by decide, _, rfl, rfl⟩ ⟨(Nat.le_of_ble_eq_true rfl), (Nat.le_of_ble_eq_true rfl)⟩ ⟨(Nat.le_of_ble_eq_true rfl), (Nat.le_of_ble_eq_true rfl)⟩ (Nat.le_of_ble_eq_true rfl) <|
    V_goto (tat ok_X9_worthOf_1 (i := 19) (q := 115) rfl rfl) rfl <|
    V_pick [0, 1, 2, 3, 4, 5, 6] rfl (V_X9_worthOf_116_1 hb7 he hk (jx (P := oP P) kk rfl))
def F_X9_worthOf_80_1 (I : WI) (L : WL) (a1 : Int32) (a2 : Int32) (a3 : Int32) (a4 : Int64) (a6 : Int32) (a8 : Int32) (a9 : Int32) (a10 : Int32) (s0 : Int32) : Option ((Int64 × Int32) ⊕ (Int64 × Int32 × Int32 × Int32)) :=
  (if s0 = 0 then (F_X9_worthOf_115_1 I L a1 a2 a3 a6 s0 a8 a4) else (if 8 ≤ a10 then (F_X9_worthOf_115_1 I L a1 a2 a3 a6 s0 a8 a4) else (if a9 = 0 then (F_X9_worthOf_107_1 I L a1 a2 a3 a6 s0 a8 a10 1 a4) else (F_X9_worthOf_107_1 I L a1 a2 a3 a6 s0 a8 a10 0 a4))))
theorem V_X9_worthOf_80_1  {I : WI} {L : WL} {a1 : Int32} {a2 : Int32} {a3 : Int32} {a4 : Int64} {a6 : Int32} {a8 : Int32} {a9 : Int32} {a10 : Int32} {s0 : Int32} {P : ((Int64 × Int32) ⊕ (Int64 × Int32 × Int32 × Int32)) → Prop} {t : Tg} (hb9 : bz a9 = a9) (hs0 : bz s0 = s0) (he : ∀ x : (Int64 × Int32), P (.inl x) → V (zM x_X9_worthOf 3 0 0 t) 125 [(0, .ref 33), (1, .int a1), (2, .int a2), (3, .int a3), (4, .long (p1 x)), (7, .int (p2 x))] [] ly0 I L R0 0 0) (hk : ∀ x : (Int64 × Int32 × Int32 × Int32), P (.inr x) → V (zM x_X9_worthOf 3 0 0 t) 17 [(0, .ref 33), (1, .int a1), (2, .int a2), (3, .int a3), (4, .long (p1 x)), (6, .int (p1 (p2 x))), (7, .int (p1 (p2 (p2 x)))), (8, .int (p2 (p2 (p2 x))))] [] ly0 I L R0 0 0) (kk : oP P (F_X9_worthOf_80_1 I L a1 a2 a3 a4 a6 a8 a9 a10 s0)) : V (zM x_X9_worthOf 3 0 0 t) 80 [(0, .ref 33), (1, .int a1), (2, .int a2), (3, .int a3), (4, .long a4), (6, .int a6), (8, .int a8), (9, .int a9), (10, .int a10)] [.int s0] ly0 I L R0 0 0 :=
  V_istore (lv' := [(7, .int s0), (0, .ref 33), (1, .int a1), (2, .int a2), (3, .int a3), (4, .long a4), (6, .int a6), (8, .int a8), (9, .int a9), (10, .int a10)]) (tat ok_X9_worthOf_1 (i := 4) (q := 82) rfl rfl) (Nat.le_of_ble_eq_true rfl) rfl <|
    V_lload (tat ok_X9_worthOf_1 (i := 5) (q := 84) rfl rfl) 5 rfl <|
    V_iload (tat ok_X9_worthOf_1 (i := 6) (q := 86) rfl rfl) 0 rfl <|
    V_if_eq (tat ok_X9_worthOf_1 (i := 7) (q := 89) rfl rfl) rfl (fun c5 => V_pick [1, 2, 3, 4, 6, 0, 7] rfl (V_X9_worthOf_115_1 hs0 he hk (jx (P := oP P) kk (if_pos c5)))) (fun c5 => V_iload (tat ok_X9_worthOf_1 (i := 8) (q := 91) rfl rfl) 9 rfl <|
    V_bipush (tat ok_X9_worthOf_1 (i := 9) (q := 93) rfl rfl) bp_8 <|
    V_icmp_ge (tat ok_X9_worthOf_1 (i := 10) (q := 96) rfl rfl) rfl (fun c6 => V_pick [1, 2, 3, 4, 6, 0, 7] rfl (V_X9_worthOf_115_1 hs0 he hk (jx (P := oP P) kk (Eq.trans (if_neg c5) (if_pos c6))))) (fun c6 => V_aload_n (tat ok_X9_worthOf_1 (i := 11) (q := 97) rfl rfl) 1 rfl rfl <|
    V_iload (tat ok_X9_worthOf_1 (i := 12) (q := 99) rfl rfl) 8 rfl <|
    V_if_eq (tat ok_X9_worthOf_1 (i := 13) (q := 102) rfl rfl) rfl (fun c7 => V_iconst (tat ok_X9_worthOf_1 (i := 16) (q := 107) rfl rfl) ic_1 <|
    V_pick [1, 2, 3, 4, 6, 0, 7, 9] rfl (V_X9_worthOf_107_1 hs0 rfl he hk (jx (P := oP P) kk (Eq.trans (if_neg c5) (Eq.trans (if_neg c6) (if_pos c7)))))) (fun c7 => V_iconst (tat ok_X9_worthOf_1 (i := 14) (q := 103) rfl rfl) ic_0 <|
    V_goto (tat ok_X9_worthOf_1 (i := 15) (q := 106) rfl rfl) rfl <|
    V_pick [1, 2, 3, 4, 6, 0, 7, 9] rfl (V_X9_worthOf_107_1 hs0 rfl he hk (jx (P := oP P) kk (Eq.trans (if_neg c5) (Eq.trans (if_neg c6) (if_neg c7))))))))
def F_X9_worthOf_79_1 (I : WI) (L : WL) (a1 : Int32) (a2 : Int32) (a3 : Int32) (a4 : Int64) (a6 : Int32) (a8 : Int32) (a9 : Int32) (a10 : Int32) : Option ((Int64 × Int32) ⊕ (Int64 × Int32 × Int32 × Int32)) :=
  (F_X9_worthOf_80_1 I L a1 a2 a3 a4 a6 a8 a9 a10 0)
theorem V_X9_worthOf_79_1  {I : WI} {L : WL} {a1 : Int32} {a2 : Int32} {a3 : Int32} {a4 : Int64} {a6 : Int32} {a8 : Int32} {a9 : Int32} {a10 : Int32} {P : ((Int64 × Int32) ⊕ (Int64 × Int32 × Int32 × Int32)) → Prop} {t : Tg} (hb9 : bz a9 = a9) (he : ∀ x : (Int64 × Int32), P (.inl x) → V (zM x_X9_worthOf 3 0 0 t) 125 [(0, .ref 33), (1, .int a1), (2, .int a2), (3, .int a3), (4, .long (p1 x)), (7, .int (p2 x))] [] ly0 I L R0 0 0) (hk : ∀ x : (Int64 × Int32 × Int32 × Int32), P (.inr x) → V (zM x_X9_worthOf 3 0 0 t) 17 [(0, .ref 33), (1, .int a1), (2, .int a2), (3, .int a3), (4, .long (p1 x)), (6, .int (p1 (p2 x))), (7, .int (p1 (p2 (p2 x)))), (8, .int (p2 (p2 (p2 x))))] [] ly0 I L R0 0 0) (kk : oP P (F_X9_worthOf_79_1 I L a1 a2 a3 a4 a6 a8 a9 a10)) : V (zM x_X9_worthOf 3 0 0 t) 79 [(0, .ref 33), (1, .int a1), (2, .int a2), (3, .int a3), (4, .long a4), (6, .int a6), (8, .int a8), (9, .int a9), (10, .int a10)] [] ly0 I L R0 0 0 :=
  V_iconst (tat ok_X9_worthOf_1 (i := 3) (q := 80) rfl rfl) ic_0 <|
    V_X9_worthOf_80_1 hb9 rfl he hk (jx (P := oP P) kk rfl)
def F_X9_worthOf_43_1 (I : WI) (L : WL) (a1 : Int32) (a2 : Int32) (a3 : Int32) (a4 : Int64) (a6 : Int32) (a7 : Int32) (a8 : Int32) (s0 : Int32) : Option ((Int64 × Int32) ⊕ (Int64 × Int32 × Int32 × Int32)) :=
  (if a7 = 0 then (F_X9_worthOf_79_1 I L a1 a2 a3 a4 (a6 / 9) a8 s0 (a6 - a6 / 9 * 9)) else (if (F_X9_isMove I s0 (a6 - a6 / 9 * 9)) = 0 then (F_X9_worthOf_79_1 I L a1 a2 a3 a4 (a6 / 9) a8 s0 (a6 - a6 / 9 * 9)) else (F_X9_worthOf_80_1 I L a1 a2 a3 a4 (a6 / 9) a8 s0 (a6 - a6 / 9 * 9) 1)))
theorem V_X9_worthOf_43_1  {I : WI} {L : WL} {a1 : Int32} {a2 : Int32} {a3 : Int32} {a4 : Int64} {a6 : Int32} {a7 : Int32} {a8 : Int32} {s0 : Int32} {P : ((Int64 × Int32) ⊕ (Int64 × Int32 × Int32 × Int32)) → Prop} {t : Tg} (hs0 : bz s0 = s0) (he : ∀ x : (Int64 × Int32), P (.inl x) → V (zM x_X9_worthOf 3 0 0 t) 125 [(0, .ref 33), (1, .int a1), (2, .int a2), (3, .int a3), (4, .long (p1 x)), (7, .int (p2 x))] [] ly0 I L R0 0 0) (hk : ∀ x : (Int64 × Int32 × Int32 × Int32), P (.inr x) → V (zM x_X9_worthOf 3 0 0 t) 17 [(0, .ref 33), (1, .int a1), (2, .int a2), (3, .int a3), (4, .long (p1 x)), (6, .int (p1 (p2 x))), (7, .int (p1 (p2 (p2 x)))), (8, .int (p2 (p2 (p2 x))))] [] ly0 I L R0 0 0) (kk : oP P (F_X9_worthOf_43_1 I L a1 a2 a3 a4 a6 a7 a8 s0)) : V (zM x_X9_worthOf 3 0 0 t) 43 [(0, .ref 33), (1, .int a1), (2, .int a2), (3, .int a3), (4, .long a4), (6, .int a6), (7, .int a7), (8, .int a8)] [.int s0] ly0 I L R0 0 0 :=
  V_istore (lv' := [(9, .int s0), (0, .ref 33), (1, .int a1), (2, .int a2), (3, .int a3), (4, .long a4), (6, .int a6), (7, .int a7), (8, .int a8)]) (tat ok_X9_worthOf_0 (i := 25) (q := 45) rfl rfl) (Nat.le_of_ble_eq_true rfl) rfl <|
    V_iload (tat ok_X9_worthOf_0 (i := 26) (q := 47) rfl rfl) 6 rfl <|
    V_bipush (tat ok_X9_worthOf_0 (i := 27) (q := 49) rfl rfl) bp_9 <|
    V_irem (tat ok_X9_worthOf_0 (i := 28) (q := 50) rfl rfl) (by decide) <|
    V_istore (lv' := [(10, .int (a6 - a6 / 9 * 9)), (9, .int s0), (0, .ref 33), (1, .int a1), (2, .int a2), (3, .int a3), (4, .long a4), (6, .int a6), (7, .int a7), (8, .int a8)]) (tat ok_X9_worthOf_0 (i := 29) (q := 52) rfl rfl) (Nat.le_of_ble_eq_true rfl) rfl <|
    V_iload (tat ok_X9_worthOf_0 (i := 30) (q := 54) rfl rfl) 7 rfl <|
    V_bipush (tat ok_X9_worthOf_0 (i := 31) (q := 56) rfl rfl) bp_9 <|
    V_idiv (tat ok_X9_worthOf_0 (i := 32) (q := 57) rfl rfl) (by decide) <|
    V_istore (lv' := [(6, .int (a6 / 9)), (10, .int (a6 - a6 / 9 * 9)), (9, .int s0), (0, .ref 33), (1, .int a1), (2, .int a2), (3, .int a3), (4, .long a4), (7, .int a7), (8, .int a8)]) (tat ok_X9_worthOf_0 (i := 33) (q := 59) rfl rfl) (Nat.le_of_ble_eq_true rfl) rfl <|
    V_iload (tat ok_X9_worthOf_0 (i := 34) (q := 61) rfl rfl) 8 rfl <|
    V_if_eq (tat ok_X9_worthOf_0 (i := 35) (q := 64) rfl rfl) rfl (fun c4 => V_pick [3, 4, 5, 6, 7, 0, 9, 2, 1] rfl (V_X9_worthOf_79_1 hs0 he hk (jx (P := oP P) kk (if_pos c4)))) (fun c4 => V_aload_n (tat ok_X9_worthOf_0 (i := 36) (q := 65) rfl rfl) 3 rfl rfl <|
    V_iload (tat ok_X9_worthOf_0 (i := 37) (q := 67) rfl rfl) 2 rfl <|
    V_iload (tat ok_X9_worthOf_0 (i := 38) (q := 69) rfl rfl) 1 rfl <|
    V_cv2 (ct_X9_isMove I L s0 (a6 - a6 / 9 * 9) ) mo_X9_isMove (tat ok_X9_worthOf_0 (i := 39) (q := 72) rfl rfl) ml_X9_287 rfl ⟨by decide, _, rfl, rfl⟩ ⟨(Nat.le_of_ble_eq_true rfl), (Nat.le_of_ble_eq_true rfl)⟩ ⟨(Nat.le_of_ble_eq_true rfl), (Nat.le_of_ble_eq_true rfl)⟩ (Nat.le_of_ble_eq_true rfl) <|
    V_if_eq (tat ok_X9_worthOf_1 (i := 0) (q := 75) rfl rfl) rfl (fun c8 => V_pick [3, 4, 5, 6, 7, 0, 9, 2, 1] rfl (V_X9_worthOf_79_1 hs0 he hk (jx (P := oP P) kk (Eq.trans (if_neg c4) (if_pos c8))))) (fun c8 => V_iconst (tat ok_X9_worthOf_1 (i := 1) (q := 76) rfl rfl) ic_1 <|
    V_goto (tat ok_X9_worthOf_1 (i := 2) (q := 79) rfl rfl) rfl <|
    V_pick [3, 4, 5, 6, 7, 0, 9, 2, 1] rfl (V_X9_worthOf_80_1 hs0 rfl he hk (jx (P := oP P) kk (Eq.trans (if_neg c4) (if_neg c8))))))
def F_X9_worthOf_34_1 (I : WI) (L : WL) (a1 : Int32) (a2 : Int32) (a3 : Int32) (a4 : Int64) (a6 : Int32) (a7 : Int32) (a8 : Int32) (s0 : Int32) : Option ((Int64 × Int32) ⊕ (Int64 × Int32 × Int32 × Int32)) :=
  (if s0 = a3 then (F_X9_worthOf_43_1 I L a1 a2 a3 a4 a6 a7 a8 1) else (F_X9_worthOf_43_1 I L a1 a2 a3 a4 a6 a7 a8 0))
theorem V_X9_worthOf_34_1  {I : WI} {L : WL} {a1 : Int32} {a2 : Int32} {a3 : Int32} {a4 : Int64} {a6 : Int32} {a7 : Int32} {a8 : Int32} {s0 : Int32} {P : ((Int64 × Int32) ⊕ (Int64 × Int32 × Int32 × Int32)) → Prop} {t : Tg} (hs0 : bz s0 = s0) (he : ∀ x : (Int64 × Int32), P (.inl x) → V (zM x_X9_worthOf 3 0 0 t) 125 [(0, .ref 33), (1, .int a1), (2, .int a2), (3, .int a3), (4, .long (p1 x)), (7, .int (p2 x))] [] ly0 I L R0 0 0) (hk : ∀ x : (Int64 × Int32 × Int32 × Int32), P (.inr x) → V (zM x_X9_worthOf 3 0 0 t) 17 [(0, .ref 33), (1, .int a1), (2, .int a2), (3, .int a3), (4, .long (p1 x)), (6, .int (p1 (p2 x))), (7, .int (p1 (p2 (p2 x)))), (8, .int (p2 (p2 (p2 x))))] [] ly0 I L R0 0 0) (kk : oP P (F_X9_worthOf_34_1 I L a1 a2 a3 a4 a6 a7 a8 s0)) : V (zM x_X9_worthOf 3 0 0 t) 34 [(0, .ref 33), (1, .int a1), (2, .int a2), (3, .int a3), (4, .long a4), (6, .int a6), (7, .int a7), (8, .int a8)] [.int s0] ly0 I L R0 0 0 :=
  V_iload_n (tat ok_X9_worthOf_0 (i := 20) (q := 35) rfl rfl) 3 rfl rfl <|
    V_icmp_ne (tat ok_X9_worthOf_0 (i := 21) (q := 38) rfl rfl) rfl (fun c3 => V_iconst (tat ok_X9_worthOf_0 (i := 24) (q := 43) rfl rfl) ic_0 <|
    V_X9_worthOf_43_1 rfl he hk (jx (P := oP P) kk (if_neg c3))) (fun c3 => V_iconst (tat ok_X9_worthOf_0 (i := 22) (q := 39) rfl rfl) ic_1 <|
    V_goto (tat ok_X9_worthOf_0 (i := 23) (q := 42) rfl rfl) rfl <|
    V_X9_worthOf_43_1 rfl he hk (jx (P := oP P) kk (if_pos c3)))
def F_X9_worthOf_17_1 (I : WI) (L : WL) (a1 : Int32) (a2 : Int32) (a3 : Int32) (a4 : Int64) (a6 : Int32) (a7 : Int32) (a8 : Int32) : Option ((Int64 × Int32) ⊕ (Int64 × Int32 × Int32 × Int32)) :=
  (if a8 < 0 then some (.inl (a4, a7)) else (if (a8 - a8 / 2 * 2) = 0 then (F_X9_worthOf_34_1 I L a1 a2 a3 a4 a6 a7 a8 1) else (F_X9_worthOf_34_1 I L a1 a2 a3 a4 a6 a7 a8 0)))
theorem V_X9_worthOf_17_1  {I : WI} {L : WL} {a1 : Int32} {a2 : Int32} {a3 : Int32} {a4 : Int64} {a6 : Int32} {a7 : Int32} {a8 : Int32} {P : ((Int64 × Int32) ⊕ (Int64 × Int32 × Int32 × Int32)) → Prop} {t : Tg} (he : ∀ x : (Int64 × Int32), P (.inl x) → V (zM x_X9_worthOf 3 0 0 t) 125 [(0, .ref 33), (1, .int a1), (2, .int a2), (3, .int a3), (4, .long (p1 x)), (7, .int (p2 x))] [] ly0 I L R0 0 0) (hk : ∀ x : (Int64 × Int32 × Int32 × Int32), P (.inr x) → V (zM x_X9_worthOf 3 0 0 t) 17 [(0, .ref 33), (1, .int a1), (2, .int a2), (3, .int a3), (4, .long (p1 x)), (6, .int (p1 (p2 x))), (7, .int (p1 (p2 (p2 x)))), (8, .int (p2 (p2 (p2 x))))] [] ly0 I L R0 0 0) (kk : oP P (F_X9_worthOf_17_1 I L a1 a2 a3 a4 a6 a7 a8)) : V (zM x_X9_worthOf 3 0 0 t) 17 [(0, .ref 33), (1, .int a1), (2, .int a2), (3, .int a3), (4, .long a4), (6, .int a6), (7, .int a7), (8, .int a8)] [] ly0 I L R0 0 0 :=
  V_iload (tat ok_X9_worthOf_0 (i := 11) (q := 19) rfl rfl) 7 rfl <|
    V_if_lt (tat ok_X9_worthOf_0 (i := 12) (q := 22) rfl rfl) rfl (fun c1 => V_pick [0, 1, 2, 3, 4, 6] rfl (he (a4, a7) (jx (P := oP P) kk (if_pos c1)))) (fun c1 => V_iload (tat ok_X9_worthOf_0 (i := 13) (q := 24) rfl rfl) 7 rfl <|
    V_iconst (tat ok_X9_worthOf_0 (i := 14) (q := 25) rfl rfl) ic_2 <|
    V_irem (tat ok_X9_worthOf_0 (i := 15) (q := 26) rfl rfl) (by decide) <|
    V_if_ne (tat ok_X9_worthOf_0 (i := 16) (q := 29) rfl rfl) rfl (fun c2 => V_iconst (tat ok_X9_worthOf_0 (i := 19) (q := 34) rfl rfl) ic_0 <|
    V_X9_worthOf_34_1 rfl he hk (jx (P := oP P) kk (Eq.trans (if_neg c1) (if_neg c2)))) (fun c2 => V_iconst (tat ok_X9_worthOf_0 (i := 17) (q := 30) rfl rfl) ic_1 <|
    V_goto (tat ok_X9_worthOf_0 (i := 18) (q := 33) rfl rfl) rfl <|
    V_X9_worthOf_34_1 rfl he hk (jx (P := oP P) kk (Eq.trans (if_neg c1) (if_pos c2)))))
def F_X9_worthOf_140 (I : WI) (L : WL) (a1 : Int32) (a2 : Int32) (a3 : Int32) (s0 : Int32) : Option Int32 :=
  some s0
theorem V_X9_worthOf_140  {I : WI} {L : WL} {a1 : Int32} {a2 : Int32} {a3 : Int32} {s0 : Int32} {P : Int32 → Prop} {t : Tg} (hr : ∀ v, P v → t = (some (.int v), ly0, I, L, R0)) (kk : oP P (F_X9_worthOf_140 I L a1 a2 a3 s0)) : V (zM x_X9_worthOf 3 0 0 t) 140 [(0, .ref 33), (1, .int a1), (2, .int a2), (3, .int a3)] [.int s0] ly0 I L R0 0 0 :=
  V_iret (tat ok_X9_worthOf_1 (i := 31) (q := 141) rfl rfl) _ rfl (nar_int _) (hr s0 (jx (P := oP P) kk rfl)) ⟨(Nat.le_of_ble_eq_true rfl), (Nat.le_of_ble_eq_true rfl)⟩
def F_X9_worthOf_125 (I : WI) (L : WL) (a1 : Int32) (a2 : Int32) (a3 : Int32) (a4 : Int64) (a7 : Int32) : Option Int32 :=
  (if a7 = 0 then (F_X9_worthOf_140 I L a1 a2 a3 (-4)) else (F_X9_worthOf_140 I L a1 a2 a3 (F_X9_many a4)))
theorem V_X9_worthOf_125  {I : WI} {L : WL} {a1 : Int32} {a2 : Int32} {a3 : Int32} {a4 : Int64} {a7 : Int32} {P : Int32 → Prop} {t : Tg} (hr : ∀ v, P v → t = (some (.int v), ly0, I, L, R0)) (kk : oP P (F_X9_worthOf_125 I L a1 a2 a3 a4 a7)) : V (zM x_X9_worthOf 3 0 0 t) 125 [(0, .ref 33), (1, .int a1), (2, .int a2), (3, .int a3), (4, .long a4), (7, .int a7)] [] ly0 I L R0 0 0 :=
  V_iload (tat ok_X9_worthOf_1 (i := 25) (q := 127) rfl rfl) 5 rfl <|
    V_if_eq (tat ok_X9_worthOf_1 (i := 26) (q := 130) rfl rfl) rfl (fun c9 => V_bipush (tat ok_X9_worthOf_1 (i := 30) (q := 140) rfl rfl) bp_m4 <|
    V_pick [0, 1, 2, 3] rfl (V_X9_worthOf_140  hr (jx (P := oP P) kk (if_pos c9)))) (fun c9 => V_lload (tat ok_X9_worthOf_1 (i := 27) (q := 132) rfl rfl) 4 rfl <|
    V_cs1 (ct_X9_many I L a4 ) mo_X9_many (tat ok_X9_worthOf_1 (i := 28) (q := 135) rfl rfl) ml_X9_220 ⟨(Nat.le_of_ble_eq_true rfl), (Nat.le_of_ble_eq_true rfl)⟩ ⟨(Nat.le_of_ble_eq_true rfl), (Nat.le_of_ble_eq_true rfl)⟩ (Nat.le_of_ble_eq_true rfl) <|
    V_goto (tat ok_X9_worthOf_1 (i := 29) (q := 138) rfl rfl) rfl <|
    V_pick [0, 1, 2, 3] rfl (V_X9_worthOf_140  hr (jx (P := oP P) kk (if_neg c9))))
def F_X9_worthOf_17 (I : WI) (L : WL) (a1 : Int32) (a2 : Int32) (a3 : Int32) (a4 : Int64) (a6 : Int32) (a7 : Int32) (a8 : Int32) : Option Int32 :=
  (lpp (fun x => (F_X9_worthOf_17_1 I L a1 a2 a3 (p1 x) (p1 (p2 x)) (p1 (p2 (p2 x))) (p2 (p2 (p2 x))))) 4294967296 (a4, a6, a7, a8)).bind (fun q => (F_X9_worthOf_125 I L a1 a2 a3 (p1 q) (p2 q)))
theorem V_X9_worthOf_17  {I : WI} {L : WL} {a1 : Int32} {a2 : Int32} {a3 : Int32} {a4 : Int64} {a6 : Int32} {a7 : Int32} {a8 : Int32} {P : Int32 → Prop} {t : Tg} (hb7 : bz a7 = a7) (hr : ∀ v, P v → t = (some (.int v), ly0, I, L, R0)) (kk : oP P (F_X9_worthOf_17 I L a1 a2 a3 a4 a6 a7 a8)) : V (zM x_X9_worthOf 3 0 0 t) 17 [(0, .ref 33), (1, .int a1), (2, .int a2), (3, .int a3), (4, .long a4), (6, .int a6), (7, .int a7), (8, .int a8)] [] ly0 I L R0 0 0 :=
  V_lpp (fun x => (F_X9_worthOf_17_1 I L a1 a2 a3 (p1 x) (p1 (p2 x)) (p1 (p2 (p2 x))) (p2 (p2 (p2 x))))) (fun x => V (zM x_X9_worthOf 3 0 0 t) 17 [(0, .ref 33), (1, .int a1), (2, .int a2), (3, .int a3), (4, .long (p1 x)), (6, .int (p1 (p2 x))), (7, .int (p1 (p2 (p2 x)))), (8, .int (p2 (p2 (p2 x))))] [] ly0 I L R0 0 0) (fun x => oP P ((F_X9_worthOf_125 I L a1 a2 a3 (p1 x) (p2 x)))) (s := (a4, a6, a7, a8)) (fun x e0 => V_X9_worthOf_17_1 (P := Sum.elim (fun x => oP P ((F_X9_worthOf_125 I L a1 a2 a3 (p1 x) (p2 x)))) (fun x => V (zM x_X9_worthOf 3 0 0 t) 17 [(0, .ref 33), (1, .int a1), (2, .int a2), (3, .int a3), (4, .long (p1 x)), (6, .int (p1 (p2 x))), (7, .int (p1 (p2 (p2 x)))), (8, .int (p2 (p2 (p2 x))))] [] ly0 I L R0 0 0))  (fun x e => V_X9_worthOf_125  hr e) (fun _ e => e) e0) (oP_bind (f := fun q => _) kk)
def F_X9_worthOf (I : WI) (L : WL) (a1 : Int32) (a2 : Int32) (a3 : Int32) : Option Int32 :=
  (F_X9_worthOf_17 I L a1 a2 a3 (L 33 2) a1 1 (a2 - 1))
theorem V_X9_worthOf  {I : WI} {L : WL} {a1 : Int32} {a2 : Int32} {a3 : Int32}  {P : Int32 → Prop} {t : Tg} (hr : ∀ v, P v → t = (some (.int v), ly0, I, L, R0)) (kk : oP P (F_X9_worthOf I L a1 a2 a3)) : V (zM x_X9_worthOf 3 0 0 t) 0 [(0, .ref 33), (1, .int a1), (2, .int a2), (3, .int a3)] [] ly0 I L R0 0 0 :=
  V_aload_n (tat ok_X9_worthOf_0 (i := 0) (q := 1) rfl rfl) 0 rfl rfl <|
    V_getL (tat ok_X9_worthOf_0 (i := 1) (q := 4) rfl rfl) fk_X9_80 rfl <|
    V_lstore (lv' := [(4, .long (L 33 2)), (0, .ref 33), (1, .int a1), (2, .int a2), (3, .int a3)]) (tat ok_X9_worthOf_0 (i := 2) (q := 6) rfl rfl) (Nat.le_of_ble_eq_true rfl) rfl <|
    V_iload_n (tat ok_X9_worthOf_0 (i := 3) (q := 7) rfl rfl) 2 rfl rfl <|
    V_istore (lv' := [(6, .int a1), (4, .long (L 33 2)), (0, .ref 33), (1, .int a1), (2, .int a2), (3, .int a3)]) (tat ok_X9_worthOf_0 (i := 4) (q := 9) rfl rfl) (Nat.le_of_ble_eq_true rfl) rfl <|
    V_iconst (tat ok_X9_worthOf_0 (i := 5) (q := 10) rfl rfl) ic_1 <|
    V_istore (lv' := [(7, .int 1), (6, .int a1), (4, .long (L 33 2)), (0, .ref 33), (1, .int a1), (2, .int a2), (3, .int a3)]) (tat ok_X9_worthOf_0 (i := 6) (q := 12) rfl rfl) (Nat.le_of_ble_eq_true rfl) rfl <|
    V_iload_n (tat ok_X9_worthOf_0 (i := 7) (q := 13) rfl rfl) 5 rfl rfl <|
    V_iconst (tat ok_X9_worthOf_0 (i := 8) (q := 14) rfl rfl) ic_1 <|
    V_isub (tat ok_X9_worthOf_0 (i := 9) (q := 15) rfl rfl) <|
    V_istore (lv' := [(8, .int (a2 - 1)), (7, .int 1), (6, .int a1), (4, .long (L 33 2)), (0, .ref 33), (1, .int a1), (2, .int a2), (3, .int a3)]) (tat ok_X9_worthOf_0 (i := 10) (q := 17) rfl rfl) (Nat.le_of_ble_eq_true rfl) rfl <|
    V_pick [4, 5, 6, 7, 3, 2, 1, 0] rfl (V_X9_worthOf_17 rfl hr (jx (P := oP P) kk rfl))
theorem ct_X9_worthOf  (I : WI) (L : WL) (a1 : Int32) (a2 : Int32) (a3 : Int32)  {v : Int32} (h : (F_X9_worthOf I L a1 a2 a3) = some v) : Ct x_X9_worthOf 3 [.ref 33, .int a1, .int a2, .int a3] ly0 I L R0 0 0 (some (.int v), ly0, I, L, R0) :=
  Ct_of_V mo_X9_worthOf.1 (Nat.le_of_ble_eq_true rfl) (V_X9_worthOf (P := fun x => x = v)  (fun _ e => by rw [e]) (by rw [h]; exact rfl))
def F_X9_best_88_1 (I : WI) (a1 : Int32) (a2 : Int32) (a4 : Int32) (s0 : Int32) : Option Int32 :=
  some s0
theorem V_X9_best_88_1  {I : WI} {L : WL} {a1 : Int32} {a2 : Int32} {a4 : Int32} {s0 : Int32} {P : Int32 → Prop} {t : Tg} (hk : ∀ x : Int32, P x → V (zM x_X9_best 1 0 0 t) 6 [(0, .ref 33), (1, .int a1), (2, .int a2), (3, .int x), (4, .int (a4 + 1))] [] ly0 I L R0 0 0) (kk : oP P (F_X9_best_88_1 I a1 a2 a4 s0)) : V (zM x_X9_best 1 0 0 t) 88 [(0, .ref 33), (1, .int a1), (2, .int a2), (4, .int a4)] [.int s0] ly0 I L R0 0 0 :=
  V_istore_n (lv' := [(3, .int s0), (0, .ref 33), (1, .int a1), (2, .int a2), (4, .int a4)]) (tat ok_X9_best_1 (i := 8) (q := 89) rfl rfl) rfl (Nat.le_of_ble_eq_true rfl) rfl <|
    V_iinc (v := (a4 + 1)) (lv' := [(4, .int (a4 + 1)), (3, .int s0), (0, .ref 33), (1, .int a1), (2, .int a2)]) (tat ok_X9_best_1 (i := 9) (q := 92) rfl rfl) 4 rfl (ia ic_1) (Nat.le_of_ble_eq_true rfl) rfl <|
    V_goto (tat ok_X9_best_1 (i := 10) (q := 95) rfl rfl) rfl <|
    V_pick [2, 3, 4, 1, 0] rfl (hk s0 (jx (P := oP P) kk rfl))
def F_X9_best_75_1 (I : WI) (a1 : Int32) (a2 : Int32) (a4 : Int32) (a3 : Int32) (s0 : Int32) : Option Int32 :=
  (if s0 = 0 then (F_X9_best_88_1 I a1 a2 a4 a3) else (F_X9_best_88_1 I a1 a2 a4 a4))
theorem V_X9_best_75_1  {I : WI} {L : WL} {a1 : Int32} {a2 : Int32} {a4 : Int32} {a3 : Int32} {s0 : Int32} {P : Int32 → Prop} {t : Tg} (hs0 : bz s0 = s0) (hk : ∀ x : Int32, P x → V (zM x_X9_best 1 0 0 t) 6 [(0, .ref 33), (1, .int a1), (2, .int a2), (3, .int x), (4, .int (a4 + 1))] [] ly0 I L R0 0 0) (kk : oP P (F_X9_best_75_1 I a1 a2 a4 a3 s0)) : V (zM x_X9_best 1 0 0 t) 75 [(0, .ref 33), (1, .int a1), (2, .int a2), (3, .int a3), (4, .int a4)] [.int s0] ly0 I L R0 0 0 :=
  V_istore (lv' := [(6, .int s0), (0, .ref 33), (1, .int a1), (2, .int a2), (3, .int a3), (4, .int a4)]) (tat ok_X9_best_1 (i := 2) (q := 77) rfl rfl) (Nat.le_of_ble_eq_true rfl) rfl <|
    V_iload (tat ok_X9_best_1 (i := 3) (q := 79) rfl rfl) 0 rfl <|
    V_if_eq (tat ok_X9_best_1 (i := 4) (q := 82) rfl rfl) rfl (fun c3 => V_iload_n (tat ok_X9_best_1 (i := 7) (q := 88) rfl rfl) 4 rfl rfl <|
    V_pick [1, 2, 3, 5] rfl (V_X9_best_88_1  hk (jx (P := oP P) kk (if_pos c3)))) (fun c3 => V_iload (tat ok_X9_best_1 (i := 5) (q := 84) rfl rfl) 5 rfl <|
    V_goto (tat ok_X9_best_1 (i := 6) (q := 87) rfl rfl) rfl <|
    V_pick [1, 2, 3, 5] rfl (V_X9_best_88_1  hk (jx (P := oP P) kk (if_neg c3))))
def F_X9_best_74_1 (I : WI) (a1 : Int32) (a2 : Int32) (a4 : Int32) (a3 : Int32) : Option Int32 :=
  (F_X9_best_75_1 I a1 a2 a4 a3 0)
theorem V_X9_best_74_1  {I : WI} {L : WL} {a1 : Int32} {a2 : Int32} {a4 : Int32} {a3 : Int32} {P : Int32 → Prop} {t : Tg} (hk : ∀ x : Int32, P x → V (zM x_X9_best 1 0 0 t) 6 [(0, .ref 33), (1, .int a1), (2, .int a2), (3, .int x), (4, .int (a4 + 1))] [] ly0 I L R0 0 0) (kk : oP P (F_X9_best_74_1 I a1 a2 a4 a3)) : V (zM x_X9_best 1 0 0 t) 74 [(0, .ref 33), (1, .int a1), (2, .int a2), (3, .int a3), (4, .int a4)] [] ly0 I L R0 0 0 :=
  V_iconst (tat ok_X9_best_1 (i := 1) (q := 75) rfl rfl) ic_0 <|
    V_X9_best_75_1 rfl hk (jx (P := oP P) kk rfl)
def F_X9_best_70_1 (I : WI) (a1 : Int32) (a2 : Int32) (a4 : Int32) (a3 : Int32) : Option Int32 :=
  (F_X9_best_75_1 I a1 a2 a4 a3 1)
theorem V_X9_best_70_1  {I : WI} {L : WL} {a1 : Int32} {a2 : Int32} {a4 : Int32} {a3 : Int32} {P : Int32 → Prop} {t : Tg} (hk : ∀ x : Int32, P x → V (zM x_X9_best 1 0 0 t) 6 [(0, .ref 33), (1, .int a1), (2, .int a2), (3, .int x), (4, .int (a4 + 1))] [] ly0 I L R0 0 0) (kk : oP P (F_X9_best_70_1 I a1 a2 a4 a3)) : V (zM x_X9_best 1 0 0 t) 70 [(0, .ref 33), (1, .int a1), (2, .int a2), (3, .int a3), (4, .int a4)] [] ly0 I L R0 0 0 :=
  V_iconst (tat ok_X9_best_0 (i := 39) (q := 71) rfl rfl) ic_1 <|
    V_goto (tat ok_X9_best_1 (i := 0) (q := 74) rfl rfl) rfl <|
    V_X9_best_75_1 rfl hk (jx (P := oP P) kk rfl)
def F_X9_best_13_1 (I : WI) (a1 : Int32) (a2 : Int32) (a4 : Int32) (a3 : Int32) : Option Int32 :=
  (if (a1 + a4) < 0 ∨ 6561 ≤ Int32.toNatClampNeg (a1 + a4) then none else (if (I 41 (Int32.toNatClampNeg (a1 + a4))) = (-4) then (F_X9_best_74_1 I a1 a2 a4 a3) else (if a3 = (-4) then (F_X9_best_70_1 I a1 a2 a4 a3) else (if a2 = 0 then (if (a1 + a3) < 0 ∨ 6561 ≤ Int32.toNatClampNeg (a1 + a3) then none else (if (I 41 (Int32.toNatClampNeg (a1 + a3))) ≤ (I 41 (Int32.toNatClampNeg (a1 + a4))) then (F_X9_best_74_1 I a1 a2 a4 a3) else (F_X9_best_70_1 I a1 a2 a4 a3))) else (if (a1 + a3) < 0 ∨ 6561 ≤ Int32.toNatClampNeg (a1 + a3) then none else (if (I 41 (Int32.toNatClampNeg (a1 + a4))) ≤ (I 41 (Int32.toNatClampNeg (a1 + a3))) then (F_X9_best_74_1 I a1 a2 a4 a3) else (F_X9_best_70_1 I a1 a2 a4 a3)))))))
theorem V_X9_best_13_1  {I : WI} {L : WL} {a1 : Int32} {a2 : Int32} {a4 : Int32} {a3 : Int32} {P : Int32 → Prop} {t : Tg} (hk : ∀ x : Int32, P x → V (zM x_X9_best 1 0 0 t) 6 [(0, .ref 33), (1, .int a1), (2, .int a2), (3, .int x), (4, .int (a4 + 1))] [] ly0 I L R0 0 0) (kk : oP P (F_X9_best_13_1 I a1 a2 a4 a3)) : V (zM x_X9_best 1 0 0 t) 13 [(0, .ref 33), (1, .int a1), (2, .int a2), (3, .int a3), (4, .int a4)] [] ly0 I L R0 0 0 :=
  V_aload_n (tat ok_X9_best_0 (i := 7) (q := 14) rfl rfl) 0 rfl rfl <|
    V_getR (tat ok_X9_best_0 (i := 8) (q := 17) rfl rfl) fk_X9_32 rfl rfl <|
    V_iload_n (tat ok_X9_best_0 (i := 9) (q := 18) rfl rfl) 1 rfl rfl <|
    V_iload (tat ok_X9_best_0 (i := 10) (q := 20) rfl rfl) 4 rfl <|
    V_iadd (tat ok_X9_best_0 (i := 11) (q := 21) rfl rfl) <|
    (if c1 : (a1 + a4) < 0 ∨ 6561 ≤ Int32.toNatClampNeg (a1 + a4) then ((jx (P := oP P) kk (if_pos c1))).elim else V_iald (tat ok_X9_best_0 (i := 12) (q := 22) rfl rfl) rfl c1 <|
    V_istore (lv' := [(5, .int (I 41 (Int32.toNatClampNeg (a1 + a4)))), (0, .ref 33), (1, .int a1), (2, .int a2), (3, .int a3), (4, .int a4)]) (tat ok_X9_best_0 (i := 13) (q := 24) rfl rfl) (Nat.le_of_ble_eq_true rfl) rfl <|
    V_iload (tat ok_X9_best_0 (i := 14) (q := 26) rfl rfl) 0 rfl <|
    V_bipush (tat ok_X9_best_0 (i := 15) (q := 28) rfl rfl) bp_m4 <|
    V_icmp_eq (tat ok_X9_best_0 (i := 16) (q := 31) rfl rfl) rfl (fun c2 => V_pick [1, 2, 3, 4, 5] rfl (V_X9_best_74_1  hk (jx (P := oP P) kk (Eq.trans (if_neg c1) (if_pos c2))))) (fun c2 => V_iload_n (tat ok_X9_best_0 (i := 17) (q := 32) rfl rfl) 4 rfl rfl <|
    V_bipush (tat ok_X9_best_0 (i := 18) (q := 34) rfl rfl) bp_m4 <|
    V_icmp_eq (tat ok_X9_best_0 (i := 19) (q := 37) rfl rfl) rfl (fun c4 => V_pick [1, 2, 3, 4, 5] rfl (V_X9_best_70_1  hk (jx (P := oP P) kk (Eq.trans (if_neg c1) (Eq.trans (if_neg c2) (if_pos c4)))))) (fun c4 => V_iload_n (tat ok_X9_best_0 (i := 20) (q := 38) rfl rfl) 3 rfl rfl <|
    V_if_eq (tat ok_X9_best_0 (i := 21) (q := 41) rfl rfl) rfl (fun c5 => V_iload (tat ok_X9_best_0 (i := 31) (q := 59) rfl rfl) 0 rfl <|
    V_aload_n (tat ok_X9_best_0 (i := 32) (q := 60) rfl rfl) 1 rfl rfl <|
    V_getR (tat ok_X9_best_0 (i := 33) (q := 63) rfl rfl) fk_X9_32 rfl rfl <|
    V_iload_n (tat ok_X9_best_0 (i := 34) (q := 64) rfl rfl) 2 rfl rfl <|
    V_iload_n (tat ok_X9_best_0 (i := 35) (q := 65) rfl rfl) 4 rfl rfl <|
    V_iadd (tat ok_X9_best_0 (i := 36) (q := 66) rfl rfl) <|
    (if c6 : (a1 + a3) < 0 ∨ 6561 ≤ Int32.toNatClampNeg (a1 + a3) then ((jx (P := oP P) kk (Eq.trans (if_neg c1) (Eq.trans (if_neg c2) (Eq.trans (if_neg c4) (Eq.trans (if_pos c5) (if_pos c6))))))).elim else V_iald (tat ok_X9_best_0 (i := 37) (q := 67) rfl rfl) rfl c6 <|
    V_icmp_ge (tat ok_X9_best_0 (i := 38) (q := 70) rfl rfl) rfl (fun c7 => V_pick [1, 2, 3, 4, 5] rfl (V_X9_best_74_1  hk (jx (P := oP P) kk (Eq.trans (if_neg c1) (Eq.trans (if_neg c2) (Eq.trans (if_neg c4) (Eq.trans (if_pos c5) (Eq.trans (if_neg c6) (if_pos c7))))))))) (fun c7 => V_pick [1, 2, 3, 4, 5] rfl (V_X9_best_70_1  hk (jx (P := oP P) kk (Eq.trans (if_neg c1) (Eq.trans (if_neg c2) (Eq.trans (if_neg c4) (Eq.trans (if_pos c5) (Eq.trans (if_neg c6) (if_neg c7))))))))))) (fun c5 => V_iload (tat ok_X9_best_0 (i := 22) (q := 43) rfl rfl) 0 rfl <|
    V_aload_n (tat ok_X9_best_0 (i := 23) (q := 44) rfl rfl) 1 rfl rfl <|
    V_getR (tat ok_X9_best_0 (i := 24) (q := 47) rfl rfl) fk_X9_32 rfl rfl <|
    V_iload_n (tat ok_X9_best_0 (i := 25) (q := 48) rfl rfl) 2 rfl rfl <|
    V_iload_n (tat ok_X9_best_0 (i := 26) (q := 49) rfl rfl) 4 rfl rfl <|
    V_iadd (tat ok_X9_best_0 (i := 27) (q := 50) rfl rfl) <|
    (if c8 : (a1 + a3) < 0 ∨ 6561 ≤ Int32.toNatClampNeg (a1 + a3) then ((jx (P := oP P) kk (Eq.trans (if_neg c1) (Eq.trans (if_neg c2) (Eq.trans (if_neg c4) (Eq.trans (if_neg c5) (if_pos c8))))))).elim else V_iald (tat ok_X9_best_0 (i := 28) (q := 51) rfl rfl) rfl c8 <|
    V_icmp_le (tat ok_X9_best_0 (i := 29) (q := 54) rfl rfl) rfl (fun c9 => V_pick [1, 2, 3, 4, 5] rfl (V_X9_best_74_1  hk (jx (P := oP P) kk (Eq.trans (if_neg c1) (Eq.trans (if_neg c2) (Eq.trans (if_neg c4) (Eq.trans (if_neg c5) (Eq.trans (if_neg c8) (if_pos c9))))))))) (fun c9 => V_goto (tat ok_X9_best_0 (i := 30) (q := 57) rfl rfl) rfl <|
    V_pick [1, 2, 3, 4, 5] rfl (V_X9_best_70_1  hk (jx (P := oP P) kk (Eq.trans (if_neg c1) (Eq.trans (if_neg c2) (Eq.trans (if_neg c4) (Eq.trans (if_neg c5) (Eq.trans (if_neg c8) (if_neg c9))))))))))))))
def F_X9_best_95 (I : WI) (a1 : Int32) (a2 : Int32) (a3 : Int32) : Option Int32 :=
  some a3
theorem V_X9_best_95  {I : WI} {L : WL} {a1 : Int32} {a2 : Int32} {a3 : Int32} {P : Int32 → Prop} {t : Tg} (hr : ∀ v, P v → t = (some (.int v), ly0, I, L, R0)) (kk : oP P (F_X9_best_95 I a1 a2 a3)) : V (zM x_X9_best 1 0 0 t) 95 [(0, .ref 33), (1, .int a1), (2, .int a2), (3, .int a3)] [] ly0 I L R0 0 0 :=
  V_iload_n (tat ok_X9_best_1 (i := 11) (q := 96) rfl rfl) 3 rfl rfl <|
    V_iret (tat ok_X9_best_1 (i := 12) (q := 97) rfl rfl) _ rfl (nar_int _) (hr a3 (jx (P := oP P) kk rfl)) ⟨(Nat.le_of_ble_eq_true rfl), (Nat.le_of_ble_eq_true rfl)⟩
def F_X9_best_6 (I : WI) (a1 : Int32) (a2 : Int32) (a3 : Int32) (a4 : Int32) : Option Int32 :=
  (frp0 (fun i x => (F_X9_best_13_1 I a1 a2 i x)) 9 (fu a4 9) a4 a3).bind (fun q => (F_X9_best_95 I a1 a2 (p2 q)))
theorem V_X9_best_6  {I : WI} {L : WL} {a1 : Int32} {a2 : Int32} {a3 : Int32} {a4 : Int32} {P : Int32 → Prop} {t : Tg} (hb4 : bz a4 = a4) (hr : ∀ v, P v → t = (some (.int v), ly0, I, L, R0)) (kk : oP P (F_X9_best_6 I a1 a2 a3 a4)) : V (zM x_X9_best 1 0 0 t) 6 [(0, .ref 33), (1, .int a1), (2, .int a2), (3, .int a3), (4, .int a4)] [] ly0 I L R0 0 0 :=
  V_frp0 (fun i x => (F_X9_best_13_1 I a1 a2 i x)) 9 (fun i x => V (zM x_X9_best 1 0 0 t) 6 [(0, .ref 33), (1, .int a1), (2, .int a2), (3, .int x), (4, .int i)] [] ly0 I L R0 0 0) (fun i x => oP P ((F_X9_best_95 I a1 a2 x))) (c := a4) (s := a3) (fun i x kx kb => V_iload (tat ok_X9_best_0 (i := 4) (q := 8) rfl rfl) 4 rfl <|
    V_bipush (tat ok_X9_best_0 (i := 5) (q := 10) rfl rfl) bp_9 <|
    V_icmp_ge (tat ok_X9_best_0 (i := 6) (q := 13) rfl rfl) rfl (fun c0 => V_pick [0, 1, 2, 3] rfl (V_X9_best_95  hr (kx c0))) (fun c0 => V_X9_best_13_1 (P := (fun x => (fun i x => V (zM x_X9_best 1 0 0 t) 6 [(0, .ref 33), (1, .int a1), (2, .int a2), (3, .int x), (4, .int i)] [] ly0 I L R0 0 0) (i + 1) x))  (fun _ e => e) (kb c0))) (oP_bind (f := fun q => _) kk)
def F_X9_best (I : WI) (a1 : Int32) (a2 : Int32) : Option Int32 :=
  (F_X9_best_6 I a1 a2 (-4) 0)
theorem V_X9_best  {I : WI} {L : WL} {a1 : Int32} {a2 : Int32}  {P : Int32 → Prop} {t : Tg} (hr : ∀ v, P v → t = (some (.int v), ly0, I, L, R0)) (kk : oP P (F_X9_best I a1 a2)) : V (zM x_X9_best 1 0 0 t) 0 [(0, .ref 33), (1, .int a1), (2, .int a2)] [] ly0 I L R0 0 0 :=
  V_bipush (tat ok_X9_best_0 (i := 0) (q := 2) rfl rfl) bp_m4 <|
    V_istore_n (lv' := [(3, .int (-4)), (0, .ref 33), (1, .int a1), (2, .int a2)]) (tat ok_X9_best_0 (i := 1) (q := 3) rfl rfl) rfl (Nat.le_of_ble_eq_true rfl) rfl <|
    V_iconst (tat ok_X9_best_0 (i := 2) (q := 4) rfl rfl) ic_0 <|
    V_istore (lv' := [(4, .int 0), (3, .int (-4)), (0, .ref 33), (1, .int a1), (2, .int a2)]) (tat ok_X9_best_0 (i := 3) (q := 6) rfl rfl) (Nat.le_of_ble_eq_true rfl) rfl <|
    V_pick [2, 3, 4, 1, 0] rfl (V_X9_best_6 rfl hr (jx (P := oP P) kk rfl))
theorem ct_X9_best  (I : WI) (L : WL) (a1 : Int32) (a2 : Int32)  {v : Int32} (h : (F_X9_best I a1 a2) = some v) : Ct x_X9_best 1 [.ref 33, .int a1, .int a2] ly0 I L R0 0 0 (some (.int v), ly0, I, L, R0) :=
  Ct_of_V mo_X9_best.1 (Nat.le_of_ble_eq_true rfl) (V_X9_best (P := fun x => x = v)  (fun _ e => by rw [e]) (by rw [h]; exact rfl))
def F_X9_duel_22 (I : WI) (L : WL) (a1 : Int32) (a2 : Int32) (a3 : Int32) : Option (Int32 × WI) :=
  some ((-1), I)
theorem V_X9_duel_22  {I : WI} {L : WL} {a1 : Int32} {a2 : Int32} {a3 : Int32}  {P : (Int32 × WI) → Prop} {t : Tg} (hr : ∀ v, P v → t = (some (.int (p1 v)), ly0, (p2 v), L, R0)) (kk : oP P (F_X9_duel_22 I L a1 a2 a3)) : V (zM x_X9_duel 4 0 0 t) 22 [(0, .ref 33), (1, .int a1), (2, .int a2), (3, .int a3)] [] ly0 I L R0 0 0 :=
  V_iconst (tat ok_X9_duel_0 (i := 12) (q := 23) rfl rfl) ic_m1 <|
    V_iret (tat ok_X9_duel_0 (i := 13) (q := 24) rfl rfl) _ rfl (nar_int _) (hr ((-1), I) (jx (P := oP P) kk rfl)) ⟨(Nat.le_of_ble_eq_true rfl), (Nat.le_of_ble_eq_true rfl)⟩
def F_X9_duel_36_1 (I : WI) (L : WL) (a1 : Int32) (a2 : Int32) (a3 : Int32) (a5 : Int32) (a4 : Int32) : Option Int32 :=
  some (a4 * 9)
theorem V_X9_duel_36_1  {I : WI} {L : WL} {a1 : Int32} {a2 : Int32} {a3 : Int32} {a5 : Int32} {a4 : Int32} {P : Int32 → Prop} {t : Tg} (hk : ∀ x : Int32, P x → V (zM x_X9_duel 4 0 0 t) 30 [(0, .ref 33), (1, .int a1), (2, .int a2), (3, .int a3), (4, .int x), (5, .int (a5 + 1))] [] ly0 I L R0 0 0) (kk : oP P (F_X9_duel_36_1 I L a1 a2 a3 a5 a4)) : V (zM x_X9_duel 4 0 0 t) 36 [(0, .ref 33), (1, .int a1), (2, .int a2), (3, .int a3), (4, .int a4), (5, .int a5)] [] ly0 I L R0 0 0 :=
  V_iload (tat ok_X9_duel_0 (i := 21) (q := 38) rfl rfl) 4 rfl <|
    V_bipush (tat ok_X9_duel_0 (i := 22) (q := 40) rfl rfl) bp_9 <|
    V_imul (tat ok_X9_duel_0 (i := 23) (q := 41) rfl rfl) <|
    V_istore (lv' := [(4, .int (a4 * 9)), (0, .ref 33), (1, .int a1), (2, .int a2), (3, .int a3), (5, .int a5)]) (tat ok_X9_duel_0 (i := 24) (q := 43) rfl rfl) (Nat.le_of_ble_eq_true rfl) rfl <|
    V_iinc (v := (a5 + 1)) (lv' := [(5, .int (a5 + 1)), (4, .int (a4 * 9)), (0, .ref 33), (1, .int a1), (2, .int a2), (3, .int a3)]) (tat ok_X9_duel_0 (i := 25) (q := 46) rfl rfl) 5 rfl (ia ic_1) (Nat.le_of_ble_eq_true rfl) rfl <|
    V_goto (tat ok_X9_duel_0 (i := 26) (q := 49) rfl rfl) rfl <|
    V_pick [2, 3, 4, 5, 1, 0] rfl (hk (a4 * 9) (jx (P := oP P) kk rfl))
def F_X9_duel_59_2 (I : WI) (L : WL) (a1 : Int32) (a2 : Int32) (a3 : Int32) (a4 : Int32) (a5 : Int32) : Option WI :=
  (Option.bind (F_X9_worthOf I L a5 a1 a2) (fun v3 => (if a5 < 0 ∨ 6561 ≤ Int32.toNatClampNeg a5 then none else some (u2 I 41 (Int32.toNatClampNeg a5) v3))))
theorem V_X9_duel_59_2  {I : WI} {L : WL} {a1 : Int32} {a2 : Int32} {a3 : Int32} {a4 : Int32} {a5 : Int32}  {P : WI → Prop} {t : Tg} (hk : ∀ x : WI, P x → V (zM x_X9_duel 4 0 0 t) 52 [(0, .ref 33), (1, .int a1), (2, .int a2), (3, .int a3), (4, .int a4), (5, .int (a5 + 1))] [] ly0 x L R0 0 0) (kk : oP P (F_X9_duel_59_2 I L a1 a2 a3 a4 a5)) : V (zM x_X9_duel 4 0 0 t) 59 [(0, .ref 33), (1, .int a1), (2, .int a2), (3, .int a3), (4, .int a4), (5, .int a5)] [] ly0 I L R0 0 0 :=
  V_aload_n (tat ok_X9_duel_0 (i := 32) (q := 60) rfl rfl) 0 rfl rfl <|
    V_getR (tat ok_X9_duel_0 (i := 33) (q := 63) rfl rfl) fk_X9_32 rfl rfl <|
    V_iload (tat ok_X9_duel_0 (i := 34) (q := 65) rfl rfl) 5 rfl <|
    V_aload_n (tat ok_X9_duel_0 (i := 35) (q := 66) rfl rfl) 0 rfl rfl <|
    V_iload (tat ok_X9_duel_0 (i := 36) (q := 68) rfl rfl) 5 rfl <|
    V_iload_n (tat ok_X9_duel_0 (i := 37) (q := 69) rfl rfl) 1 rfl rfl <|
    V_iload_n (tat ok_X9_duel_0 (i := 38) (q := 70) rfl rfl) 2 rfl rfl <|
    oP_case (jx (P := oP P) kk rfl) (fun v3 e3 _ => V_cv3 (ct_X9_worthOf I L a5 a1 a2  e3) mo_X9_worthOf (tat ok_X9_duel_0 (i := 39) (q := 73) rfl rfl) ml_X9_293 rfl ⟨by decide, _, rfl, rfl⟩ ⟨(Nat.le_of_ble_eq_true rfl), (Nat.le_of_ble_eq_true rfl)⟩ ⟨(Nat.le_of_ble_eq_true rfl), (Nat.le_of_ble_eq_true rfl)⟩ (Nat.le_of_ble_eq_true rfl) <|
    (if c4 : a5 < 0 ∨ 6561 ≤ Int32.toNatClampNeg a5 then ((jx (P := oP P) kk (Eq.trans (ob e3) (if_pos c4)))).elim else V_iast (tat ok_X9_duel_1 (i := 0) (q := 74) rfl rfl) rfl c4 <|
    V_iinc (v := (a5 + 1)) (lv' := [(5, .int (a5 + 1)), (0, .ref 33), (1, .int a1), (2, .int a2), (3, .int a3), (4, .int a4)]) (tat ok_X9_duel_1 (i := 1) (q := 77) rfl rfl) 5 rfl (ia ic_1) (Nat.le_of_ble_eq_true rfl) rfl <|
    V_goto (tat ok_X9_duel_1 (i := 2) (q := 80) rfl rfl) rfl <|
    V_pick [1, 2, 3, 4, 5, 0] rfl (hk (u2 I 41 (Int32.toNatClampNeg a5) v3) (jx (P := oP P) kk (Eq.trans (ob e3) (if_neg c4))))))
def F_X9_duel_176_4 (I : WI) (L : WL) (a1 : Int32) (a2 : Int32) (a3 : Int32) (a4 : Int32) (a5 : Int32) (a6 : Int32) (s0 : Int32) (s1 : Int32) : Option WI :=
  (if s1 < 0 ∨ 6561 ≤ Int32.toNatClampNeg s1 then none else some (u2 I 41 (Int32.toNatClampNeg s1) s0))
theorem V_X9_duel_176_4  {I : WI} {L : WL} {a1 : Int32} {a2 : Int32} {a3 : Int32} {a4 : Int32} {a5 : Int32} {a6 : Int32} {s0 : Int32} {s1 : Int32} {P : WI → Prop} {t : Tg} (hk : ∀ x : WI, P x → V (zM x_X9_duel 4 0 0 t) 100 [(0, .ref 33), (1, .int a1), (2, .int a2), (3, .int a3), (4, .int a4), (5, .int a5), (6, .int (a6 + 1))] [] ly0 x L R0 0 0) (kk : oP P (F_X9_duel_176_4 I L a1 a2 a3 a4 a5 a6 s0 s1)) : V (zM x_X9_duel 4 0 0 t) 176 [(0, .ref 33), (1, .int a1), (2, .int a2), (3, .int a3), (4, .int a4), (5, .int a5), (6, .int a6)] [.int s0, .int s1, .ref 41] ly0 I L R0 0 0 :=
  (if c10 : s1 < 0 ∨ 6561 ≤ Int32.toNatClampNeg s1 then ((jx (P := oP P) kk (if_pos c10))).elim else V_iast (tat ok_X9_duel_2 (i := 15) (q := 177) rfl rfl) rfl c10 <|
    V_iinc (v := (a6 + 1)) (lv' := [(6, .int (a6 + 1)), (0, .ref 33), (1, .int a1), (2, .int a2), (3, .int a3), (4, .int a4), (5, .int a5)]) (tat ok_X9_duel_2 (i := 16) (q := 180) rfl rfl) 6 rfl (ia ic_1) (Nat.le_of_ble_eq_true rfl) rfl <|
    V_goto (tat ok_X9_duel_2 (i := 17) (q := 183) rfl rfl) rfl <|
    V_pick [1, 2, 3, 4, 5, 6, 0] rfl (hk (u2 I 41 (Int32.toNatClampNeg s1) s0) (jx (P := oP P) kk (if_neg c10))))
def F_X9_duel_134_4 (I : WI) (L : WL) (a1 : Int32) (a2 : Int32) (a3 : Int32) (a4 : Int32) (a5 : Int32) (a6 : Int32) (s0 : Int32) (s1 : Int32) : Option WI :=
  (Option.bind (F_X9_best I s1 s0) (fun v8 => (if v8 = (-4) then (F_X9_duel_176_4 (u2 I 33 38 v8) L a1 a2 a3 a4 a5 a6 (-4) a6) else (if ((9 * a6) + v8) < 0 ∨ 6561 ≤ Int32.toNatClampNeg ((9 * a6) + v8) then none else (F_X9_duel_176_4 (u2 I 33 38 v8) L a1 a2 a3 a4 a5 a6 ((u2 I 33 38 v8) 41 (Int32.toNatClampNeg ((9 * a6) + v8))) a6)))))
theorem V_X9_duel_134_4  {I : WI} {L : WL} {a1 : Int32} {a2 : Int32} {a3 : Int32} {a4 : Int32} {a5 : Int32} {a6 : Int32} {s0 : Int32} {s1 : Int32} {P : WI → Prop} {t : Tg} (hs0 : bz s0 = s0) (hk : ∀ x : WI, P x → V (zM x_X9_duel 4 0 0 t) 100 [(0, .ref 33), (1, .int a1), (2, .int a2), (3, .int a3), (4, .int a4), (5, .int a5), (6, .int (a6 + 1))] [] ly0 x L R0 0 0) (kk : oP P (F_X9_duel_134_4 I L a1 a2 a3 a4 a5 a6 s0 s1)) : V (zM x_X9_duel 4 0 0 t) 134 [(0, .ref 33), (1, .int a1), (2, .int a2), (3, .int a3), (4, .int a4), (5, .int a5), (6, .int a6)] [.int s0, .int s1, .ref 33] ly0 I L R0 0 0 :=
  oP_case (jx (P := oP P) kk rfl) (fun v8 e8 _ => V_cv2 (ct_X9_best I L s1 s0  e8) mo_X9_best (tat ok_X9_duel_1 (i := 34) (q := 137) rfl rfl) ml_X9_297 rfl ⟨by decide, _, rfl, rfl⟩ ⟨(Nat.le_of_ble_eq_true rfl), (Nat.le_of_ble_eq_true rfl)⟩ ⟨(Nat.le_of_ble_eq_true rfl), (Nat.le_of_ble_eq_true rfl)⟩ (Nat.le_of_ble_eq_true rfl) <|
    V_istore (lv' := [(7, .int v8), (0, .ref 33), (1, .int a1), (2, .int a2), (3, .int a3), (4, .int a4), (5, .int a5), (6, .int a6)]) (tat ok_X9_duel_1 (i := 35) (q := 139) rfl rfl) (Nat.le_of_ble_eq_true rfl) rfl <|
    V_aload_n (tat ok_X9_duel_1 (i := 36) (q := 140) rfl rfl) 1 rfl rfl <|
    V_iload (tat ok_X9_duel_1 (i := 37) (q := 142) rfl rfl) 0 rfl <|
    V_putI (tat ok_X9_duel_1 (i := 38) (q := 145) rfl rfl) fk_X9_301 rfl rfl <|
    V_aload_n (tat ok_X9_duel_1 (i := 39) (q := 146) rfl rfl) 1 rfl rfl <|
    V_getR (tat ok_X9_duel_2 (i := 0) (q := 149) rfl rfl) fk_X9_32 rfl rfl <|
    V_iload (tat ok_X9_duel_2 (i := 1) (q := 151) rfl rfl) 7 rfl <|
    V_iload (tat ok_X9_duel_2 (i := 2) (q := 153) rfl rfl) 0 rfl <|
    V_bipush (tat ok_X9_duel_2 (i := 3) (q := 155) rfl rfl) bp_m4 <|
    V_icmp_ne (tat ok_X9_duel_2 (i := 4) (q := 158) rfl rfl) rfl (fun c9 => V_aload_n (tat ok_X9_duel_2 (i := 7) (q := 164) rfl rfl) 1 rfl rfl <|
    V_getR (tat ok_X9_duel_2 (i := 8) (q := 167) rfl rfl) fk_X9_32 rfl rfl <|
    V_bipush (tat ok_X9_duel_2 (i := 9) (q := 169) rfl rfl) bp_9 <|
    V_iload (tat ok_X9_duel_2 (i := 10) (q := 171) rfl rfl) 7 rfl <|
    V_imul (tat ok_X9_duel_2 (i := 11) (q := 172) rfl rfl) <|
    V_iload (tat ok_X9_duel_2 (i := 12) (q := 174) rfl rfl) 0 rfl <|
    V_iadd (tat ok_X9_duel_2 (i := 13) (q := 175) rfl rfl) <|
    (if c11 : ((9 * a6) + v8) < 0 ∨ 6561 ≤ Int32.toNatClampNeg ((9 * a6) + v8) then ((jx (P := oP P) kk (Eq.trans (ob e8) (Eq.trans (if_neg c9) (if_pos c11))))).elim else V_iald (tat ok_X9_duel_2 (i := 14) (q := 176) rfl rfl) rfl c11 <|
    V_pick [1, 2, 3, 4, 5, 6, 7] rfl (V_X9_duel_176_4  hk (jx (P := oP P) kk (Eq.trans (ob e8) (Eq.trans (if_neg c9) (if_neg c11))))))) (fun c9 => V_bipush (tat ok_X9_duel_2 (i := 5) (q := 160) rfl rfl) bp_m4 <|
    V_goto (tat ok_X9_duel_2 (i := 6) (q := 163) rfl rfl) rfl <|
    V_pick [1, 2, 3, 4, 5, 6, 7] rfl (V_X9_duel_176_4  hk (jx (P := oP P) kk (Eq.trans (ob e8) (if_pos c9))))))
def F_X9_duel_125_4 (I : WI) (L : WL) (a1 : Int32) (a2 : Int32) (a3 : Int32) (a4 : Int32) (a5 : Int32) (a6 : Int32) (s0 : Int32) (s1 : Int32) : Option WI :=
  (if s0 = a2 then (F_X9_duel_134_4 I L a1 a2 a3 a4 a5 a6 1 s1) else (F_X9_duel_134_4 I L a1 a2 a3 a4 a5 a6 0 s1))
theorem V_X9_duel_125_4  {I : WI} {L : WL} {a1 : Int32} {a2 : Int32} {a3 : Int32} {a4 : Int32} {a5 : Int32} {a6 : Int32} {s0 : Int32} {s1 : Int32} {P : WI → Prop} {t : Tg} (hs0 : bz s0 = s0) (hk : ∀ x : WI, P x → V (zM x_X9_duel 4 0 0 t) 100 [(0, .ref 33), (1, .int a1), (2, .int a2), (3, .int a3), (4, .int a4), (5, .int a5), (6, .int (a6 + 1))] [] ly0 x L R0 0 0) (kk : oP P (F_X9_duel_125_4 I L a1 a2 a3 a4 a5 a6 s0 s1)) : V (zM x_X9_duel 4 0 0 t) 125 [(0, .ref 33), (1, .int a1), (2, .int a2), (3, .int a3), (4, .int a4), (5, .int a5), (6, .int a6)] [.int s0, .int s1, .ref 33] ly0 I L R0 0 0 :=
  V_iload_n (tat ok_X9_duel_1 (i := 29) (q := 126) rfl rfl) 2 rfl rfl <|
    V_icmp_ne (tat ok_X9_duel_1 (i := 30) (q := 129) rfl rfl) rfl (fun c7 => V_iconst (tat ok_X9_duel_1 (i := 33) (q := 134) rfl rfl) ic_0 <|
    V_X9_duel_134_4 rfl hk (jx (P := oP P) kk (if_neg c7))) (fun c7 => V_iconst (tat ok_X9_duel_1 (i := 31) (q := 130) rfl rfl) ic_1 <|
    V_goto (tat ok_X9_duel_1 (i := 32) (q := 133) rfl rfl) rfl <|
    V_X9_duel_134_4 rfl hk (jx (P := oP P) kk (if_pos c7)))
def F_X9_duel_107_4 (I : WI) (L : WL) (a1 : Int32) (a2 : Int32) (a3 : Int32) (a4 : Int32) (a5 : Int32) (a6 : Int32) : Option WI :=
  (if (a5 - a5 / 2 * 2) = 0 then (F_X9_duel_125_4 I L a1 a2 a3 a4 a5 a6 1 (9 * a6)) else (F_X9_duel_125_4 I L a1 a2 a3 a4 a5 a6 0 (9 * a6)))
theorem V_X9_duel_107_4  {I : WI} {L : WL} {a1 : Int32} {a2 : Int32} {a3 : Int32} {a4 : Int32} {a5 : Int32} {a6 : Int32}  {P : WI → Prop} {t : Tg} (hk : ∀ x : WI, P x → V (zM x_X9_duel 4 0 0 t) 100 [(0, .ref 33), (1, .int a1), (2, .int a2), (3, .int a3), (4, .int a4), (5, .int a5), (6, .int (a6 + 1))] [] ly0 x L R0 0 0) (kk : oP P (F_X9_duel_107_4 I L a1 a2 a3 a4 a5 a6)) : V (zM x_X9_duel 4 0 0 t) 107 [(0, .ref 33), (1, .int a1), (2, .int a2), (3, .int a3), (4, .int a4), (5, .int a5), (6, .int a6)] [] ly0 I L R0 0 0 :=
  V_aload_n (tat ok_X9_duel_1 (i := 18) (q := 108) rfl rfl) 0 rfl rfl <|
    V_bipush (tat ok_X9_duel_1 (i := 19) (q := 110) rfl rfl) bp_9 <|
    V_iload (tat ok_X9_duel_1 (i := 20) (q := 112) rfl rfl) 6 rfl <|
    V_imul (tat ok_X9_duel_1 (i := 21) (q := 113) rfl rfl) <|
    V_iload (tat ok_X9_duel_1 (i := 22) (q := 115) rfl rfl) 5 rfl <|
    V_iconst (tat ok_X9_duel_1 (i := 23) (q := 116) rfl rfl) ic_2 <|
    V_irem (tat ok_X9_duel_1 (i := 24) (q := 117) rfl rfl) (by decide) <|
    V_if_ne (tat ok_X9_duel_1 (i := 25) (q := 120) rfl rfl) rfl (fun c6 => V_iconst (tat ok_X9_duel_1 (i := 28) (q := 125) rfl rfl) ic_0 <|
    V_X9_duel_125_4 rfl hk (jx (P := oP P) kk (if_neg c6))) (fun c6 => V_iconst (tat ok_X9_duel_1 (i := 26) (q := 121) rfl rfl) ic_1 <|
    V_goto (tat ok_X9_duel_1 (i := 27) (q := 124) rfl rfl) rfl <|
    V_X9_duel_125_4 rfl hk (jx (P := oP P) kk (if_pos c6)))
def F_X9_duel_183_3 (I : WI) (L : WL) (a1 : Int32) (a2 : Int32) (a3 : Int32) (a4 : Int32) (a5 : Int32) : Option (WI ⊕ (Int32 × Int32 × WI)) :=
  some (.inr (a4, (a5 + (-1)), I))
theorem V_X9_duel_183_3  {I : WI} {L : WL} {a1 : Int32} {a2 : Int32} {a3 : Int32} {a4 : Int32} {a5 : Int32} {P : (WI ⊕ (Int32 × Int32 × WI)) → Prop} {t : Tg} (he : ∀ x : WI, P (.inl x) → V (zM x_X9_duel 4 0 0 t) 189 [(0, .ref 33), (1, .int a1), (2, .int a2), (3, .int a3)] [] ly0 x L R0 0 0) (hk : ∀ x : (Int32 × Int32 × WI), P (.inr x) → V (zM x_X9_duel 4 0 0 t) 85 [(0, .ref 33), (1, .int a1), (2, .int a2), (3, .int a3), (4, .int (p1 x)), (5, .int (p1 (p2 x)))] [] ly0 (p2 (p2 x)) L R0 0 0) (kk : oP P (F_X9_duel_183_3 I L a1 a2 a3 a4 a5)) : V (zM x_X9_duel 4 0 0 t) 183 [(0, .ref 33), (1, .int a1), (2, .int a2), (3, .int a3), (4, .int a4), (5, .int a5)] [] ly0 I L R0 0 0 :=
  V_iinc (v := (a5 + (-1))) (lv' := [(5, .int (a5 + (-1))), (0, .ref 33), (1, .int a1), (2, .int a2), (3, .int a3), (4, .int a4)]) (tat ok_X9_duel_2 (i := 18) (q := 186) rfl rfl) 5 rfl (ia ic_m1) (Nat.le_of_ble_eq_true rfl) rfl <|
    V_goto (tat ok_X9_duel_2 (i := 19) (q := 189) rfl rfl) rfl <|
    V_pick [1, 2, 3, 4, 5, 0] rfl (hk (a4, (a5 + (-1)), I) (jx (P := oP P) kk rfl))
def F_X9_duel_100_3 (I : WI) (L : WL) (a1 : Int32) (a2 : Int32) (a3 : Int32) (a4 : Int32) (a5 : Int32) (a6 : Int32) : Option (WI ⊕ (Int32 × Int32 × WI)) :=
  (frp0 (fun i x => (F_X9_duel_107_4 x L a1 a2 a3 a4 a5 i)) a4 (fu a6 a4) a6 I).bind (fun q => (F_X9_duel_183_3 (p2 q) L a1 a2 a3 a4 a5))
theorem V_X9_duel_100_3  {I : WI} {L : WL} {a1 : Int32} {a2 : Int32} {a3 : Int32} {a4 : Int32} {a5 : Int32} {a6 : Int32} {P : (WI ⊕ (Int32 × Int32 × WI)) → Prop} {t : Tg} (hb6 : bz a6 = a6) (he : ∀ x : WI, P (.inl x) → V (zM x_X9_duel 4 0 0 t) 189 [(0, .ref 33), (1, .int a1), (2, .int a2), (3, .int a3)] [] ly0 x L R0 0 0) (hk : ∀ x : (Int32 × Int32 × WI), P (.inr x) → V (zM x_X9_duel 4 0 0 t) 85 [(0, .ref 33), (1, .int a1), (2, .int a2), (3, .int a3), (4, .int (p1 x)), (5, .int (p1 (p2 x)))] [] ly0 (p2 (p2 x)) L R0 0 0) (kk : oP P (F_X9_duel_100_3 I L a1 a2 a3 a4 a5 a6)) : V (zM x_X9_duel 4 0 0 t) 100 [(0, .ref 33), (1, .int a1), (2, .int a2), (3, .int a3), (4, .int a4), (5, .int a5), (6, .int a6)] [] ly0 I L R0 0 0 :=
  V_frp0 (fun i x => (F_X9_duel_107_4 x L a1 a2 a3 a4 a5 i)) a4 (fun i x => V (zM x_X9_duel 4 0 0 t) 100 [(0, .ref 33), (1, .int a1), (2, .int a2), (3, .int a3), (4, .int a4), (5, .int a5), (6, .int i)] [] ly0 x L R0 0 0) (fun i x => oP P ((F_X9_duel_183_3 x L a1 a2 a3 a4 a5))) (c := a6) (s := I) (fun i x kx kb => V_iload (tat ok_X9_duel_1 (i := 15) (q := 102) rfl rfl) 6 rfl <|
    V_iload (tat ok_X9_duel_1 (i := 16) (q := 104) rfl rfl) 4 rfl <|
    V_icmp_ge (tat ok_X9_duel_1 (i := 17) (q := 107) rfl rfl) rfl (fun c0 => V_pick [0, 1, 2, 3, 4, 5] rfl (V_X9_duel_183_3  he hk (kx c0))) (fun c0 => V_X9_duel_107_4 (P := (fun x => (fun i x => V (zM x_X9_duel 4 0 0 t) 100 [(0, .ref 33), (1, .int a1), (2, .int a2), (3, .int a3), (4, .int a4), (5, .int a5), (6, .int i)] [] ly0 x L R0 0 0) (i + 1) x))  (fun _ e => e) (kb c0))) (oP_bind (f := fun q => _) kk)
def F_X9_duel_85_3 (I : WI) (L : WL) (a1 : Int32) (a2 : Int32) (a3 : Int32) (a4 : Int32) (a5 : Int32) : Option (WI ⊕ (Int32 × Int32 × WI)) :=
  (if a5 < 0 then some (.inl I) else (F_X9_duel_100_3 I L a1 a2 a3 (a4 / 9) a5 0))
theorem V_X9_duel_85_3  {I : WI} {L : WL} {a1 : Int32} {a2 : Int32} {a3 : Int32} {a4 : Int32} {a5 : Int32} {P : (WI ⊕ (Int32 × Int32 × WI)) → Prop} {t : Tg} (he : ∀ x : WI, P (.inl x) → V (zM x_X9_duel 4 0 0 t) 189 [(0, .ref 33), (1, .int a1), (2, .int a2), (3, .int a3)] [] ly0 x L R0 0 0) (hk : ∀ x : (Int32 × Int32 × WI), P (.inr x) → V (zM x_X9_duel 4 0 0 t) 85 [(0, .ref 33), (1, .int a1), (2, .int a2), (3, .int a3), (4, .int (p1 x)), (5, .int (p1 (p2 x)))] [] ly0 (p2 (p2 x)) L R0 0 0) (kk : oP P (F_X9_duel_85_3 I L a1 a2 a3 a4 a5)) : V (zM x_X9_duel 4 0 0 t) 85 [(0, .ref 33), (1, .int a1), (2, .int a2), (3, .int a3), (4, .int a4), (5, .int a5)] [] ly0 I L R0 0 0 :=
  V_iload (tat ok_X9_duel_1 (i := 7) (q := 87) rfl rfl) 5 rfl <|
    V_if_lt (tat ok_X9_duel_1 (i := 8) (q := 90) rfl rfl) rfl (fun c5 => V_pick [0, 1, 2, 3] rfl (he I (jx (P := oP P) kk (if_pos c5)))) (fun c5 => V_iload (tat ok_X9_duel_1 (i := 9) (q := 92) rfl rfl) 4 rfl <|
    V_bipush (tat ok_X9_duel_1 (i := 10) (q := 94) rfl rfl) bp_9 <|
    V_idiv (tat ok_X9_duel_1 (i := 11) (q := 95) rfl rfl) (by decide) <|
    V_istore (lv' := [(4, .int (a4 / 9)), (0, .ref 33), (1, .int a1), (2, .int a2), (3, .int a3), (5, .int a5)]) (tat ok_X9_duel_1 (i := 12) (q := 97) rfl rfl) (Nat.le_of_ble_eq_true rfl) rfl <|
    V_iconst (tat ok_X9_duel_1 (i := 13) (q := 98) rfl rfl) ic_0 <|
    V_istore (lv' := [(6, .int 0), (4, .int (a4 / 9)), (0, .ref 33), (1, .int a1), (2, .int a2), (3, .int a3), (5, .int a5)]) (tat ok_X9_duel_1 (i := 14) (q := 100) rfl rfl) (Nat.le_of_ble_eq_true rfl) rfl <|
    V_pick [2, 3, 4, 5, 1, 6, 0] rfl (V_X9_duel_100_3 rfl he hk (jx (P := oP P) kk (if_neg c5))))
def F_X9_duel_206 (I : WI) (L : WL) (a1 : Int32) (a2 : Int32) (a3 : Int32) (s0 : Int32) : Option (Int32 × WI) :=
  some (s0, I)
theorem V_X9_duel_206  {I : WI} {L : WL} {a1 : Int32} {a2 : Int32} {a3 : Int32} {s0 : Int32} {P : (Int32 × WI) → Prop} {t : Tg} (hr : ∀ v, P v → t = (some (.int (p1 v)), ly0, (p2 v), L, R0)) (kk : oP P (F_X9_duel_206 I L a1 a2 a3 s0)) : V (zM x_X9_duel 4 0 0 t) 206 [(0, .ref 33), (1, .int a1), (2, .int a2), (3, .int a3)] [.int s0] ly0 I L R0 0 0 :=
  V_iret (tat ok_X9_duel_2 (i := 29) (q := 207) rfl rfl) _ rfl (nar_int _) (hr (s0, I) (jx (P := oP P) kk rfl)) ⟨(Nat.le_of_ble_eq_true rfl), (Nat.le_of_ble_eq_true rfl)⟩
def F_X9_duel_189 (I : WI) (L : WL) (a1 : Int32) (a2 : Int32) (a3 : Int32) : Option (Int32 × WI) :=
  (if a3 = 0 then (F_X9_duel_206 I L a1 a2 a3 (I 41 (Int32.toNatClampNeg 0))) else (F_X9_duel_206 I L a1 a2 a3 (I 33 38)))
theorem V_X9_duel_189  {I : WI} {L : WL} {a1 : Int32} {a2 : Int32} {a3 : Int32}  {P : (Int32 × WI) → Prop} {t : Tg} (hr : ∀ v, P v → t = (some (.int (p1 v)), ly0, (p2 v), L, R0)) (kk : oP P (F_X9_duel_189 I L a1 a2 a3)) : V (zM x_X9_duel 4 0 0 t) 189 [(0, .ref 33), (1, .int a1), (2, .int a2), (3, .int a3)] [] ly0 I L R0 0 0 :=
  V_iload_n (tat ok_X9_duel_2 (i := 20) (q := 190) rfl rfl) 3 rfl rfl <|
    V_if_ne (tat ok_X9_duel_2 (i := 21) (q := 193) rfl rfl) rfl (fun c12 => V_aload_n (tat ok_X9_duel_2 (i := 27) (q := 203) rfl rfl) 0 rfl rfl <|
    V_getI (tat ok_X9_duel_2 (i := 28) (q := 206) rfl rfl) fk_X9_301 rfl <|
    V_X9_duel_206  hr (jx (P := oP P) kk (if_neg c12))) (fun c12 => V_aload_n (tat ok_X9_duel_2 (i := 22) (q := 194) rfl rfl) 0 rfl rfl <|
    V_getR (tat ok_X9_duel_2 (i := 23) (q := 197) rfl rfl) fk_X9_32 rfl rfl <|
    V_iconst (tat ok_X9_duel_2 (i := 24) (q := 198) rfl rfl) ic_0 <|
    V_iald (tat ok_X9_duel_2 (i := 25) (q := 199) rfl rfl) rfl (vp_in_nI (n := 0) (by decide) (by decide)) <|
    V_goto (tat ok_X9_duel_2 (i := 26) (q := 202) rfl rfl) rfl <|
    V_X9_duel_206  hr (jx (P := oP P) kk (if_pos c12)))
def F_X9_duel_85 (I : WI) (L : WL) (a1 : Int32) (a2 : Int32) (a3 : Int32) (a4 : Int32) (a5 : Int32) : Option (Int32 × WI) :=
  (lpp (fun x => (F_X9_duel_85_3 (p2 (p2 x)) L a1 a2 a3 (p1 x) (p1 (p2 x)))) 4294967296 (a4, a5, I)).bind (fun q => (F_X9_duel_189 q L a1 a2 a3))
theorem V_X9_duel_85  {I : WI} {L : WL} {a1 : Int32} {a2 : Int32} {a3 : Int32} {a4 : Int32} {a5 : Int32} {P : (Int32 × WI) → Prop} {t : Tg} (hr : ∀ v, P v → t = (some (.int (p1 v)), ly0, (p2 v), L, R0)) (kk : oP P (F_X9_duel_85 I L a1 a2 a3 a4 a5)) : V (zM x_X9_duel 4 0 0 t) 85 [(0, .ref 33), (1, .int a1), (2, .int a2), (3, .int a3), (4, .int a4), (5, .int a5)] [] ly0 I L R0 0 0 :=
  V_lpp (fun x => (F_X9_duel_85_3 (p2 (p2 x)) L a1 a2 a3 (p1 x) (p1 (p2 x)))) (fun x => V (zM x_X9_duel 4 0 0 t) 85 [(0, .ref 33), (1, .int a1), (2, .int a2), (3, .int a3), (4, .int (p1 x)), (5, .int (p1 (p2 x)))] [] ly0 (p2 (p2 x)) L R0 0 0) (fun x => oP P ((F_X9_duel_189 x L a1 a2 a3))) (s := (a4, a5, I)) (fun x e0 => V_X9_duel_85_3 (P := Sum.elim (fun x => oP P ((F_X9_duel_189 x L a1 a2 a3))) (fun x => V (zM x_X9_duel 4 0 0 t) 85 [(0, .ref 33), (1, .int a1), (2, .int a2), (3, .int a3), (4, .int (p1 x)), (5, .int (p1 (p2 x)))] [] ly0 (p2 (p2 x)) L R0 0 0))  (fun x e => V_X9_duel_189  hr e) (fun _ e => e) e0) (oP_bind (f := fun q => _) kk)
def F_X9_duel_80 (I : WI) (L : WL) (a1 : Int32) (a2 : Int32) (a3 : Int32) (a4 : Int32) : Option (Int32 × WI) :=
  (F_X9_duel_85 I L a1 a2 a3 a4 (a1 - 1))
theorem V_X9_duel_80  {I : WI} {L : WL} {a1 : Int32} {a2 : Int32} {a3 : Int32} {a4 : Int32} {P : (Int32 × WI) → Prop} {t : Tg} (hr : ∀ v, P v → t = (some (.int (p1 v)), ly0, (p2 v), L, R0)) (kk : oP P (F_X9_duel_80 I L a1 a2 a3 a4)) : V (zM x_X9_duel 4 0 0 t) 80 [(0, .ref 33), (1, .int a1), (2, .int a2), (3, .int a3), (4, .int a4)] [] ly0 I L R0 0 0 :=
  V_iload_n (tat ok_X9_duel_1 (i := 3) (q := 81) rfl rfl) 1 rfl rfl <|
    V_iconst (tat ok_X9_duel_1 (i := 4) (q := 82) rfl rfl) ic_1 <|
    V_isub (tat ok_X9_duel_1 (i := 5) (q := 83) rfl rfl) <|
    V_istore (lv' := [(5, .int (a1 - 1)), (0, .ref 33), (1, .int a1), (2, .int a2), (3, .int a3), (4, .int a4)]) (tat ok_X9_duel_1 (i := 6) (q := 85) rfl rfl) (Nat.le_of_ble_eq_true rfl) rfl <|
    V_pick [1, 2, 3, 4, 5, 0] rfl (V_X9_duel_85  hr (jx (P := oP P) kk rfl))
def F_X9_duel_52 (I : WI) (L : WL) (a1 : Int32) (a2 : Int32) (a3 : Int32) (a4 : Int32) (a5 : Int32) : Option (Int32 × WI) :=
  (frp0 (fun i x => (F_X9_duel_59_2 x L a1 a2 a3 a4 i)) a4 (fu a5 a4) a5 I).bind (fun q => (F_X9_duel_80 (p2 q) L a1 a2 a3 a4))
theorem V_X9_duel_52  {I : WI} {L : WL} {a1 : Int32} {a2 : Int32} {a3 : Int32} {a4 : Int32} {a5 : Int32} {P : (Int32 × WI) → Prop} {t : Tg} (hb5 : bz a5 = a5) (hr : ∀ v, P v → t = (some (.int (p1 v)), ly0, (p2 v), L, R0)) (kk : oP P (F_X9_duel_52 I L a1 a2 a3 a4 a5)) : V (zM x_X9_duel 4 0 0 t) 52 [(0, .ref 33), (1, .int a1), (2, .int a2), (3, .int a3), (4, .int a4), (5, .int a5)] [] ly0 I L R0 0 0 :=
  V_frp0 (fun i x => (F_X9_duel_59_2 x L a1 a2 a3 a4 i)) a4 (fun i x => V (zM x_X9_duel 4 0 0 t) 52 [(0, .ref 33), (1, .int a1), (2, .int a2), (3, .int a3), (4, .int a4), (5, .int i)] [] ly0 x L R0 0 0) (fun i x => oP P ((F_X9_duel_80 x L a1 a2 a3 a4))) (c := a5) (s := I) (fun i x kx kb => V_iload (tat ok_X9_duel_0 (i := 29) (q := 54) rfl rfl) 5 rfl <|
    V_iload (tat ok_X9_duel_0 (i := 30) (q := 56) rfl rfl) 4 rfl <|
    V_icmp_ge (tat ok_X9_duel_0 (i := 31) (q := 59) rfl rfl) rfl (fun c0 => V_pick [0, 1, 2, 3, 4] rfl (V_X9_duel_80  hr (kx c0))) (fun c0 => V_X9_duel_59_2 (P := (fun x => (fun i x => V (zM x_X9_duel 4 0 0 t) 52 [(0, .ref 33), (1, .int a1), (2, .int a2), (3, .int a3), (4, .int a4), (5, .int i)] [] ly0 x L R0 0 0) (i + 1) x))  (fun _ e => e) (kb c0))) (oP_bind (f := fun q => _) kk)
def F_X9_duel_49 (I : WI) (L : WL) (a1 : Int32) (a2 : Int32) (a3 : Int32) (a4 : Int32) : Option (Int32 × WI) :=
  (F_X9_duel_52 I L a1 a2 a3 a4 0)
theorem V_X9_duel_49  {I : WI} {L : WL} {a1 : Int32} {a2 : Int32} {a3 : Int32} {a4 : Int32} {P : (Int32 × WI) → Prop} {t : Tg} (hr : ∀ v, P v → t = (some (.int (p1 v)), ly0, (p2 v), L, R0)) (kk : oP P (F_X9_duel_49 I L a1 a2 a3 a4)) : V (zM x_X9_duel 4 0 0 t) 49 [(0, .ref 33), (1, .int a1), (2, .int a2), (3, .int a3), (4, .int a4)] [] ly0 I L R0 0 0 :=
  V_iconst (tat ok_X9_duel_0 (i := 27) (q := 50) rfl rfl) ic_0 <|
    V_istore (lv' := [(5, .int 0), (0, .ref 33), (1, .int a1), (2, .int a2), (3, .int a3), (4, .int a4)]) (tat ok_X9_duel_0 (i := 28) (q := 52) rfl rfl) (Nat.le_of_ble_eq_true rfl) rfl <|
    V_pick [1, 2, 3, 4, 5, 0] rfl (V_X9_duel_52 rfl hr (jx (P := oP P) kk rfl))
def F_X9_duel_30 (I : WI) (L : WL) (a1 : Int32) (a2 : Int32) (a3 : Int32) (a4 : Int32) (a5 : Int32) : Option (Int32 × WI) :=
  (frp0 (fun i x => (F_X9_duel_36_1 I L a1 a2 a3 i x)) a1 (fu a5 a1) a5 a4).bind (fun q => (F_X9_duel_49 I L a1 a2 a3 (p2 q)))
theorem V_X9_duel_30  {I : WI} {L : WL} {a1 : Int32} {a2 : Int32} {a3 : Int32} {a4 : Int32} {a5 : Int32} {P : (Int32 × WI) → Prop} {t : Tg} (hb4 : bz a4 = a4) (hb5 : bz a5 = a5) (hr : ∀ v, P v → t = (some (.int (p1 v)), ly0, (p2 v), L, R0)) (kk : oP P (F_X9_duel_30 I L a1 a2 a3 a4 a5)) : V (zM x_X9_duel 4 0 0 t) 30 [(0, .ref 33), (1, .int a1), (2, .int a2), (3, .int a3), (4, .int a4), (5, .int a5)] [] ly0 I L R0 0 0 :=
  V_frp0 (fun i x => (F_X9_duel_36_1 I L a1 a2 a3 i x)) a1 (fun i x => V (zM x_X9_duel 4 0 0 t) 30 [(0, .ref 33), (1, .int a1), (2, .int a2), (3, .int a3), (4, .int x), (5, .int i)] [] ly0 I L R0 0 0) (fun i x => oP P ((F_X9_duel_49 I L a1 a2 a3 x))) (c := a5) (s := a4) (fun i x kx kb => V_iload (tat ok_X9_duel_0 (i := 18) (q := 32) rfl rfl) 5 rfl <|
    V_iload_n (tat ok_X9_duel_0 (i := 19) (q := 33) rfl rfl) 1 rfl rfl <|
    V_icmp_ge (tat ok_X9_duel_0 (i := 20) (q := 36) rfl rfl) rfl (fun c0 => V_pick [0, 1, 2, 3, 4] rfl (V_X9_duel_49  hr (kx c0))) (fun c0 => V_X9_duel_36_1 (P := (fun x => (fun i x => V (zM x_X9_duel 4 0 0 t) 30 [(0, .ref 33), (1, .int a1), (2, .int a2), (3, .int a3), (4, .int x), (5, .int i)] [] ly0 I L R0 0 0) (i + 1) x))  (fun _ e => e) (kb c0))) (oP_bind (f := fun q => _) kk)
def F_X9_duel (I : WI) (L : WL) (a1 : Int32) (a2 : Int32) (a3 : Int32) : Option (Int32 × WI) :=
  (if (F_X9_in (Int32.toInt64 a1) 1 4) = 0 then (F_X9_duel_22 I L a1 a2 a3) else (if (F_X9_in (Int32.toInt64 a3) 0 1) = 0 then (F_X9_duel_22 I L a1 a2 a3) else (F_X9_duel_30 I L a1 a2 a3 1 0)))
theorem V_X9_duel  {I : WI} {L : WL} {a1 : Int32} {a2 : Int32} {a3 : Int32}  {P : (Int32 × WI) → Prop} {t : Tg} (hr : ∀ v, P v → t = (some (.int (p1 v)), ly0, (p2 v), L, R0)) (kk : oP P (F_X9_duel I L a1 a2 a3)) : V (zM x_X9_duel 4 0 0 t) 0 [(0, .ref 33), (1, .int a1), (2, .int a2), (3, .int a3)] [] ly0 I L R0 0 0 :=
  V_iload_n (tat ok_X9_duel_0 (i := 0) (q := 1) rfl rfl) 1 rfl rfl <|
    V_i2l (tat ok_X9_duel_0 (i := 1) (q := 2) rfl rfl) <|
    V_lconst (v := 1) (tat ok_X9_duel_0 (i := 2) (q := 3) rfl rfl) rfl <|
    V_ldc2 (tat ok_X9_duel_0 (i := 3) (q := 6) rfl rfl) (gw_in kl_X9_291 rfl) <|
    V_cs3 (ct_X9_in I L (Int32.toInt64 a1) 1 4 ) mo_X9_in (tat ok_X9_duel_0 (i := 4) (q := 9) rfl rfl) ml_X9_97 ⟨(Nat.le_of_ble_eq_true rfl), (Nat.le_of_ble_eq_true rfl)⟩ ⟨(Nat.le_of_ble_eq_true rfl), (Nat.le_of_ble_eq_true rfl)⟩ (Nat.le_of_ble_eq_true rfl) <|
    V_if_eq (tat ok_X9_duel_0 (i := 5) (q := 12) rfl rfl) rfl (fun c1 => V_X9_duel_22  hr (jx (P := oP P) kk (if_pos c1))) (fun c1 => V_iload_n (tat ok_X9_duel_0 (i := 6) (q := 13) rfl rfl) 3 rfl rfl <|
    V_i2l (tat ok_X9_duel_0 (i := 7) (q := 14) rfl rfl) <|
    V_lconst (v := 0) (tat ok_X9_duel_0 (i := 8) (q := 15) rfl rfl) rfl <|
    V_lconst (v := 1) (tat ok_X9_duel_0 (i := 9) (q := 16) rfl rfl) rfl <|
    V_cs3 (ct_X9_in I L (Int32.toInt64 a3) 0 1 ) mo_X9_in (tat ok_X9_duel_0 (i := 10) (q := 19) rfl rfl) ml_X9_97 ⟨(Nat.le_of_ble_eq_true rfl), (Nat.le_of_ble_eq_true rfl)⟩ ⟨(Nat.le_of_ble_eq_true rfl), (Nat.le_of_ble_eq_true rfl)⟩ (Nat.le_of_ble_eq_true rfl) <|
    V_if_ne (tat ok_X9_duel_0 (i := 11) (q := 22) rfl rfl) rfl (fun c2 => V_iconst (tat ok_X9_duel_0 (i := 14) (q := 25) rfl rfl) ic_1 <|
    V_istore (lv' := [(4, .int 1), (0, .ref 33), (1, .int a1), (2, .int a2), (3, .int a3)]) (tat ok_X9_duel_0 (i := 15) (q := 27) rfl rfl) (Nat.le_of_ble_eq_true rfl) rfl <|
    V_iconst (tat ok_X9_duel_0 (i := 16) (q := 28) rfl rfl) ic_0 <|
    V_istore (lv' := [(5, .int 0), (4, .int 1), (0, .ref 33), (1, .int a1), (2, .int a2), (3, .int a3)]) (tat ok_X9_duel_0 (i := 17) (q := 30) rfl rfl) (Nat.le_of_ble_eq_true rfl) rfl <|
    V_pick [2, 3, 4, 5, 1, 0] rfl (V_X9_duel_30 rfl rfl hr (jx (P := oP P) kk (Eq.trans (if_neg c1) (if_neg c2))))) (fun c2 => V_X9_duel_22  hr (jx (P := oP P) kk (Eq.trans (if_neg c1) (if_pos c2)))))
theorem ct_X9_duel  (I : WI) (L : WL) (a1 : Int32) (a2 : Int32) (a3 : Int32)  {v : (Int32 × WI)} (h : (F_X9_duel I L a1 a2 a3) = some v) : Ct x_X9_duel 4 [.ref 33, .int a1, .int a2, .int a3] ly0 I L R0 0 0 (some (.int (p1 v)), ly0, (p2 v), L, R0) :=
  Ct_of_V mo_X9_duel.1 (Nat.le_of_ble_eq_true rfl) (V_X9_duel (P := fun x => x = v)  (fun _ e => by rw [e]) (by rw [h]; exact rfl))
def F_X9_turned_19 (I : WI) (L : WL) (a1 : Int32) (a2 : Int32) : Option (Int32 × WI) :=
  some ((-1), I)
theorem V_X9_turned_19  {I : WI} {L : WL} {a1 : Int32} {a2 : Int32}  {P : (Int32 × WI) → Prop} {t : Tg} (hr : ∀ v, P v → t = (some (.int (p1 v)), ly0, (p2 v), L, R0)) (kk : oP P (F_X9_turned_19 I L a1 a2)) : V (zM x_X9_turned 5 0 0 t) 19 [(0, .ref 33), (1, .int a1), (2, .int a2)] [] ly0 I L R0 0 0 :=
  V_iconst (tat ok_X9_turned_0 (i := 9) (q := 20) rfl rfl) ic_m1 <|
    V_iret (tat ok_X9_turned_0 (i := 10) (q := 21) rfl rfl) _ rfl (nar_int _) (hr ((-1), I) (jx (P := oP P) kk rfl)) ⟨(Nat.le_of_ble_eq_true rfl), (Nat.le_of_ble_eq_true rfl)⟩
def F_X9_turned_37 (I : WI) (L : WL) (a1 : Int32) (a2 : Int32) : Option (Int32 × WI) :=
  some ((-2), I)
theorem V_X9_turned_37  {I : WI} {L : WL} {a1 : Int32} {a2 : Int32}  {P : (Int32 × WI) → Prop} {t : Tg} (hr : ∀ v, P v → t = (some (.int (p1 v)), ly0, (p2 v), L, R0)) (kk : oP P (F_X9_turned_37 I L a1 a2)) : V (zM x_X9_turned 5 0 0 t) 37 [(0, .ref 33), (1, .int a1), (2, .int a2)] [] ly0 I L R0 0 0 :=
  V_bipush (tat ok_X9_turned_0 (i := 19) (q := 39) rfl rfl) bp_m2 <|
    V_iret (tat ok_X9_turned_0 (i := 20) (q := 40) rfl rfl) _ rfl (nar_int _) (hr ((-2), I) (jx (P := oP P) kk rfl)) ⟨(Nat.le_of_ble_eq_true rfl), (Nat.le_of_ble_eq_true rfl)⟩
def F_X9_turned_68 (I : WI) (L : WL) (a1 : Int32) (a2 : Int32) (s0 : Int32) : Option (Int32 × WI) :=
  some (s0, I)
theorem V_X9_turned_68  {I : WI} {L : WL} {a1 : Int32} {a2 : Int32} {s0 : Int32} {P : (Int32 × WI) → Prop} {t : Tg} (hr : ∀ v, P v → t = (some (.int (p1 v)), ly0, (p2 v), L, R0)) (kk : oP P (F_X9_turned_68 I L a1 a2 s0)) : V (zM x_X9_turned 5 0 0 t) 68 [(0, .ref 33), (1, .int a1), (2, .int a2)] [.int s0] ly0 I L R0 0 0 :=
  V_iret (tat ok_X9_turned_0 (i := 36) (q := 69) rfl rfl) _ rfl (nar_int _) (hr (s0, I) (jx (P := oP P) kk rfl)) ⟨(Nat.le_of_ble_eq_true rfl), (Nat.le_of_ble_eq_true rfl)⟩
def F_X9_turned (I : WI) (L : WL) (a1 : Int32) (a2 : Int32) : Option (Int32 × WI) :=
  (Option.bind (F_X9_isImage a1) (fun v1 => (if v1 = 0 then (F_X9_turned_19 I L a1 a2) else (if (F_X9_in (Int32.toInt64 a2) 0 2) = 0 then (F_X9_turned_19 I L a1 a2) else (Option.bind (F_X9_isKept I a1) (fun v4 => (if v4 = 0 then (F_X9_turned_37 I L a1 a2) else (Option.bind (F_X9_isOfSize I a1) (fun v6 => (if v6 = 0 then (F_X9_turned_37 I L a1 a2) else (if a1 < 0 ∨ 2 ≤ Int32.toNatClampNeg a1 then none else (if (p1 (F_X9_findPlan I ((L 33 2) ^^^ (L 35 (Int32.toNatClampNeg a1))))) = 0 then (F_X9_turned_68 (p2 (F_X9_findPlan I ((L 33 2) ^^^ (L 35 (Int32.toNatClampNeg a1))))) L a1 a2 (-4)) else (F_X9_turned_68 (p2 (F_X9_findPlan I ((L 33 2) ^^^ (L 35 (Int32.toNatClampNeg a1))))) L a1 a2 (F_X9_planTold (p2 (F_X9_findPlan I ((L 33 2) ^^^ (L 35 (Int32.toNatClampNeg a1))))) a2))))))))))))))
theorem V_X9_turned  {I : WI} {L : WL} {a1 : Int32} {a2 : Int32}  {P : (Int32 × WI) → Prop} {t : Tg} (hr : ∀ v, P v → t = (some (.int (p1 v)), ly0, (p2 v), L, R0)) (kk : oP P (F_X9_turned I L a1 a2)) : V (zM x_X9_turned 5 0 0 t) 0 [(0, .ref 33), (1, .int a1), (2, .int a2)] [] ly0 I L R0 0 0 :=
  V_iload_n (tat ok_X9_turned_0 (i := 0) (q := 1) rfl rfl) 1 rfl rfl <|
    oP_case (jx (P := oP P) kk rfl) (fun v1 e1 _ => V_cs1 (ct_X9_isImage I L a1  e1) mo_X9_isImage (tat ok_X9_turned_0 (i := 1) (q := 4) rfl rfl) ml_X9_235 ⟨(Nat.le_of_ble_eq_true rfl), (Nat.le_of_ble_eq_true rfl)⟩ ⟨(Nat.le_of_ble_eq_true rfl), (Nat.le_of_ble_eq_true rfl)⟩ (Nat.le_of_ble_eq_true rfl) <|
    V_if_eq (tat ok_X9_turned_0 (i := 2) (q := 7) rfl rfl) rfl (fun c2 => V_X9_turned_19  hr (jx (P := oP P) kk (Eq.trans (ob e1) (if_pos c2)))) (fun c2 => V_iload_n (tat ok_X9_turned_0 (i := 3) (q := 8) rfl rfl) 2 rfl rfl <|
    V_i2l (tat ok_X9_turned_0 (i := 4) (q := 9) rfl rfl) <|
    V_lconst (v := 0) (tat ok_X9_turned_0 (i := 5) (q := 10) rfl rfl) rfl <|
    V_ldc2 (tat ok_X9_turned_0 (i := 6) (q := 13) rfl rfl) (gw_in kl_X9_189 rfl) <|
    V_cs3 (ct_X9_in I L (Int32.toInt64 a2) 0 2 ) mo_X9_in (tat ok_X9_turned_0 (i := 7) (q := 16) rfl rfl) ml_X9_97 ⟨(Nat.le_of_ble_eq_true rfl), (Nat.le_of_ble_eq_true rfl)⟩ ⟨(Nat.le_of_ble_eq_true rfl), (Nat.le_of_ble_eq_true rfl)⟩ (Nat.le_of_ble_eq_true rfl) <|
    V_if_ne (tat ok_X9_turned_0 (i := 8) (q := 19) rfl rfl) rfl (fun c3 => V_aload_n (tat ok_X9_turned_0 (i := 11) (q := 22) rfl rfl) 0 rfl rfl <|
    V_iload_n (tat ok_X9_turned_0 (i := 12) (q := 23) rfl rfl) 1 rfl rfl <|
    oP_case (jx (P := oP P) kk (Eq.trans (ob e1) (Eq.trans (if_neg c2) (if_neg c3)))) (fun v4 e4 _ => V_cv1 (ct_X9_isKept I L a1  e4) mo_X9_isKept (tat ok_X9_turned_0 (i := 13) (q := 26) rfl rfl) ml_X9_239 rfl ⟨by decide, _, rfl, rfl⟩ ⟨(Nat.le_of_ble_eq_true rfl), (Nat.le_of_ble_eq_true rfl)⟩ ⟨(Nat.le_of_ble_eq_true rfl), (Nat.le_of_ble_eq_true rfl)⟩ (Nat.le_of_ble_eq_true rfl) <|
    V_if_eq (tat ok_X9_turned_0 (i := 14) (q := 29) rfl rfl) rfl (fun c5 => V_X9_turned_37  hr (jx (P := oP P) kk (Eq.trans (ob e1) (Eq.trans (if_neg c2) (Eq.trans (if_neg c3) (Eq.trans (ob e4) (if_pos c5))))))) (fun c5 => V_aload_n (tat ok_X9_turned_0 (i := 15) (q := 30) rfl rfl) 0 rfl rfl <|
    V_iload_n (tat ok_X9_turned_0 (i := 16) (q := 31) rfl rfl) 1 rfl rfl <|
    oP_case (jx (P := oP P) kk (Eq.trans (ob e1) (Eq.trans (if_neg c2) (Eq.trans (if_neg c3) (Eq.trans (ob e4) (if_neg c5)))))) (fun v6 e6 _ => V_cv1 (ct_X9_isOfSize I L a1  e6) mo_X9_isOfSize (tat ok_X9_turned_0 (i := 17) (q := 34) rfl rfl) ml_X9_242 rfl ⟨by decide, _, rfl, rfl⟩ ⟨(Nat.le_of_ble_eq_true rfl), (Nat.le_of_ble_eq_true rfl)⟩ ⟨(Nat.le_of_ble_eq_true rfl), (Nat.le_of_ble_eq_true rfl)⟩ (Nat.le_of_ble_eq_true rfl) <|
    V_if_ne (tat ok_X9_turned_0 (i := 18) (q := 37) rfl rfl) rfl (fun c7 => V_aload_n (tat ok_X9_turned_0 (i := 21) (q := 41) rfl rfl) 0 rfl rfl <|
    V_aload_n (tat ok_X9_turned_0 (i := 22) (q := 42) rfl rfl) 0 rfl rfl <|
    V_getL (tat ok_X9_turned_0 (i := 23) (q := 45) rfl rfl) fk_X9_80 rfl <|
    V_aload_n (tat ok_X9_turned_0 (i := 24) (q := 46) rfl rfl) 0 rfl rfl <|
    V_getR (tat ok_X9_turned_0 (i := 25) (q := 49) rfl rfl) fk_X9_13 rfl rfl <|
    V_iload_n (tat ok_X9_turned_0 (i := 26) (q := 50) rfl rfl) 1 rfl rfl <|
    (if c8 : a1 < 0 ∨ 2 ≤ Int32.toNatClampNeg a1 then ((jx (P := oP P) kk (Eq.trans (ob e1) (Eq.trans (if_neg c2) (Eq.trans (if_neg c3) (Eq.trans (ob e4) (Eq.trans (if_neg c5) (Eq.trans (ob e6) (Eq.trans (if_neg c7) (if_pos c8)))))))))).elim else V_lald (tat ok_X9_turned_0 (i := 27) (q := 51) rfl rfl) rfl c8 <|
    V_lxor (tat ok_X9_turned_0 (i := 28) (q := 52) rfl rfl) <|
    V_cv1 (ct_X9_findPlan I L ((L 33 2) ^^^ (L 35 (Int32.toNatClampNeg a1))) ) mo_X9_findPlan (tat ok_X9_turned_0 (i := 29) (q := 55) rfl rfl) ml_X9_253 rfl ⟨by decide, _, rfl, rfl⟩ ⟨(Nat.le_of_ble_eq_true rfl), (Nat.le_of_ble_eq_true rfl)⟩ ⟨(Nat.le_of_ble_eq_true rfl), (Nat.le_of_ble_eq_true rfl)⟩ (Nat.le_of_ble_eq_true rfl) <|
    V_if_eq (tat ok_X9_turned_0 (i := 30) (q := 58) rfl rfl) rfl (fun c9 => V_bipush (tat ok_X9_turned_0 (i := 35) (q := 68) rfl rfl) bp_m4 <|
    V_X9_turned_68  hr (jx (P := oP P) kk (Eq.trans (ob e1) (Eq.trans (if_neg c2) (Eq.trans (if_neg c3) (Eq.trans (ob e4) (Eq.trans (if_neg c5) (Eq.trans (ob e6) (Eq.trans (if_neg c7) (Eq.trans (if_neg c8) (if_pos c9))))))))))) (fun c9 => V_aload_n (tat ok_X9_turned_0 (i := 31) (q := 59) rfl rfl) 0 rfl rfl <|
    V_iload_n (tat ok_X9_turned_0 (i := 32) (q := 60) rfl rfl) 2 rfl rfl <|
    V_cv1 (ct_X9_planTold (p2 (F_X9_findPlan I ((L 33 2) ^^^ (L 35 (Int32.toNatClampNeg a1))))) L a2 ) mo_X9_planTold (tat ok_X9_turned_0 (i := 33) (q := 63) rfl rfl) ml_X9_257 rfl ⟨by decide, _, rfl, rfl⟩ ⟨(Nat.le_of_ble_eq_true rfl), (Nat.le_of_ble_eq_true rfl)⟩ ⟨(Nat.le_of_ble_eq_true rfl), (Nat.le_of_ble_eq_true rfl)⟩ (Nat.le_of_ble_eq_true rfl) <|
    V_goto (tat ok_X9_turned_0 (i := 34) (q := 66) rfl rfl) rfl <|
    V_X9_turned_68  hr (jx (P := oP P) kk (Eq.trans (ob e1) (Eq.trans (if_neg c2) (Eq.trans (if_neg c3) (Eq.trans (ob e4) (Eq.trans (if_neg c5) (Eq.trans (ob e6) (Eq.trans (if_neg c7) (Eq.trans (if_neg c8) (if_neg c9))))))))))))) (fun c7 => V_X9_turned_37  hr (jx (P := oP P) kk (Eq.trans (ob e1) (Eq.trans (if_neg c2) (Eq.trans (if_neg c3) (Eq.trans (ob e4) (Eq.trans (if_neg c5) (Eq.trans (ob e6) (if_pos c7))))))))))))) (fun c3 => V_X9_turned_19  hr (jx (P := oP P) kk (Eq.trans (ob e1) (Eq.trans (if_neg c2) (if_pos c3)))))))
theorem ct_X9_turned  (I : WI) (L : WL) (a1 : Int32) (a2 : Int32)  {v : (Int32 × WI)} (h : (F_X9_turned I L a1 a2) = some v) : Ct x_X9_turned 5 [.ref 33, .int a1, .int a2] ly0 I L R0 0 0 (some (.int (p1 v)), ly0, (p2 v), L, R0) :=
  Ct_of_V mo_X9_turned.1 (Nat.le_of_ble_eq_true rfl) (V_X9_turned (P := fun x => x = v)  (fun _ e => by rw [e]) (by rw [h]; exact rfl))
def F_X9_spoilt_91_1 (I : WI) (L : WL) (a1 : Int32) (a4 : Int32) (a2 : Int32) (a3 : Int32) : (Int32 × Int32) :=
  (a2, a3)
theorem V_X9_spoilt_91_1  {I : WI} {L : WL} {a1 : Int32} {a4 : Int32} {a2 : Int32} {a3 : Int32} {P : (Int32 × Int32) → Prop} {t : Tg} (hk : ∀ x : (Int32 × Int32), P x → V (zM x_X9_spoilt 4 0 0 t) 30 [(0, .ref 33), (1, .int a1), (2, .int (p1 x)), (3, .int (p2 x)), (4, .int (a4 + 1))] [] ly0 I L R0 0 0) (kk : P (F_X9_spoilt_91_1 I L a1 a4 a2 a3)) : V (zM x_X9_spoilt 4 0 0 t) 91 [(0, .ref 33), (1, .int a1), (2, .int a2), (3, .int a3), (4, .int a4)] [] ly0 I L R0 0 0 :=
  V_iinc (v := (a4 + 1)) (lv' := [(4, .int (a4 + 1)), (0, .ref 33), (1, .int a1), (2, .int a2), (3, .int a3)]) (tat ok_X9_spoilt_1 (i := 12) (q := 94) rfl rfl) 4 rfl (ia ic_1) (Nat.le_of_ble_eq_true rfl) rfl <|
    V_goto (tat ok_X9_spoilt_1 (i := 13) (q := 97) rfl rfl) rfl <|
    V_pick [1, 2, 3, 4, 0] rfl (hk (a2, a3) (jx (P := P) kk rfl))
def F_X9_spoilt_87_1 (I : WI) (L : WL) (a1 : Int32) (a4 : Int32) (a2 : Int32) (s0 : Int32) : (Int32 × Int32) :=
  (F_X9_spoilt_91_1 I L a1 a4 (a2 + 1) s0)
theorem V_X9_spoilt_87_1  {I : WI} {L : WL} {a1 : Int32} {a4 : Int32} {a2 : Int32} {s0 : Int32} {P : (Int32 × Int32) → Prop} {t : Tg} (hk : ∀ x : (Int32 × Int32), P x → V (zM x_X9_spoilt 4 0 0 t) 30 [(0, .ref 33), (1, .int a1), (2, .int (p1 x)), (3, .int (p2 x)), (4, .int (a4 + 1))] [] ly0 I L R0 0 0) (kk : P (F_X9_spoilt_87_1 I L a1 a4 a2 s0)) : V (zM x_X9_spoilt 4 0 0 t) 87 [(0, .ref 33), (1, .int a1), (2, .int a2), (4, .int a4)] [.int s0] ly0 I L R0 0 0 :=
  V_istore_n (lv' := [(3, .int s0), (0, .ref 33), (1, .int a1), (2, .int a2), (4, .int a4)]) (tat ok_X9_spoilt_1 (i := 10) (q := 88) rfl rfl) rfl (Nat.le_of_ble_eq_true rfl) rfl <|
    V_iinc (v := (a2 + 1)) (lv' := [(2, .int (a2 + 1)), (3, .int s0), (0, .ref 33), (1, .int a1), (4, .int a4)]) (tat ok_X9_spoilt_1 (i := 11) (q := 91) rfl rfl) 3 rfl (ia ic_1) (Nat.le_of_ble_eq_true rfl) rfl <|
    V_pick [2, 3, 0, 1, 4] rfl (V_X9_spoilt_91_1  hk (jx (P := P) kk rfl))
def F_X9_spoilt_37_1 (I : WI) (L : WL) (a1 : Int32) (a4 : Int32) (a2 : Int32) (a3 : Int32) : (Int32 × Int32) :=
  (if (F_X9_isSquare I (a4 / 8) (a4 - a4 / 8 * 8)) = 0 then (F_X9_spoilt_91_1 I L a1 a4 a2 a3) else (if (lg_cmp (F_X9_formNow I (((L 33 2) ^^^ (L 33 3)) ^^^ (lsh 1 a4))) 0) = 0 then (if a2 = 0 then (F_X9_spoilt_87_1 I L a1 a4 a2 a4) else (F_X9_spoilt_87_1 I L a1 a4 a2 a3)) else (F_X9_spoilt_91_1 I L a1 a4 a2 a3)))
theorem V_X9_spoilt_37_1  {I : WI} {L : WL} {a1 : Int32} {a4 : Int32} {a2 : Int32} {a3 : Int32} {P : (Int32 × Int32) → Prop} {t : Tg} (hk : ∀ x : (Int32 × Int32), P x → V (zM x_X9_spoilt 4 0 0 t) 30 [(0, .ref 33), (1, .int a1), (2, .int (p1 x)), (3, .int (p2 x)), (4, .int (a4 + 1))] [] ly0 I L R0 0 0) (kk : P (F_X9_spoilt_37_1 I L a1 a4 a2 a3)) : V (zM x_X9_spoilt 4 0 0 t) 37 [(0, .ref 33), (1, .int a1), (2, .int a2), (3, .int a3), (4, .int a4)] [] ly0 I L R0 0 0 :=
  V_aload_n (tat ok_X9_spoilt_0 (i := 22) (q := 38) rfl rfl) 0 rfl rfl <|
    V_iload (tat ok_X9_spoilt_0 (i := 23) (q := 40) rfl rfl) 4 rfl <|
    V_bipush (tat ok_X9_spoilt_0 (i := 24) (q := 42) rfl rfl) bp_8 <|
    V_idiv (tat ok_X9_spoilt_0 (i := 25) (q := 43) rfl rfl) (by decide) <|
    V_iload (tat ok_X9_spoilt_0 (i := 26) (q := 45) rfl rfl) 4 rfl <|
    V_bipush (tat ok_X9_spoilt_0 (i := 27) (q := 47) rfl rfl) bp_8 <|
    V_irem (tat ok_X9_spoilt_0 (i := 28) (q := 48) rfl rfl) (by decide) <|
    V_cv2 (ct_X9_isSquare I L (a4 / 8) (a4 - a4 / 8 * 8) ) mo_X9_isSquare (tat ok_X9_spoilt_0 (i := 29) (q := 51) rfl rfl) ml_X9_206 rfl ⟨by decide, _, rfl, rfl⟩ ⟨(Nat.le_of_ble_eq_true rfl), (Nat.le_of_ble_eq_true rfl)⟩ ⟨(Nat.le_of_ble_eq_true rfl), (Nat.le_of_ble_eq_true rfl)⟩ (Nat.le_of_ble_eq_true rfl) <|
    V_if_eq (tat ok_X9_spoilt_0 (i := 30) (q := 54) rfl rfl) rfl (fun c3 => V_X9_spoilt_91_1  hk (jx (P := P) kk (if_pos c3))) (fun c3 => V_aload_n (tat ok_X9_spoilt_0 (i := 31) (q := 55) rfl rfl) 0 rfl rfl <|
    V_aload_n (tat ok_X9_spoilt_0 (i := 32) (q := 56) rfl rfl) 0 rfl rfl <|
    V_getL (tat ok_X9_spoilt_0 (i := 33) (q := 59) rfl rfl) fk_X9_80 rfl <|
    V_aload_n (tat ok_X9_spoilt_0 (i := 34) (q := 60) rfl rfl) 0 rfl rfl <|
    V_getL (tat ok_X9_spoilt_0 (i := 35) (q := 63) rfl rfl) fk_X9_83 rfl <|
    V_lxor (tat ok_X9_spoilt_0 (i := 36) (q := 64) rfl rfl) <|
    V_lconst (v := 1) (tat ok_X9_spoilt_0 (i := 37) (q := 65) rfl rfl) rfl <|
    V_iload (tat ok_X9_spoilt_0 (i := 38) (q := 67) rfl rfl) 4 rfl <|
    V_lshl (tat ok_X9_spoilt_0 (i := 39) (q := 68) rfl rfl) <|
    V_lxor (tat ok_X9_spoilt_1 (i := 0) (q := 69) rfl rfl) <|
    V_cv1 (ct_X9_formNow I L (((L 33 2) ^^^ (L 33 3)) ^^^ (lsh 1 a4)) ) mo_X9_formNow (tat ok_X9_spoilt_1 (i := 1) (q := 72) rfl rfl) ml_X9_231 rfl ⟨by decide, _, rfl, rfl⟩ ⟨(Nat.le_of_ble_eq_true rfl), (Nat.le_of_ble_eq_true rfl)⟩ ⟨(Nat.le_of_ble_eq_true rfl), (Nat.le_of_ble_eq_true rfl)⟩ (Nat.le_of_ble_eq_true rfl) <|
    V_lconst (v := 0) (tat ok_X9_spoilt_1 (i := 2) (q := 73) rfl rfl) rfl <|
    V_lcmp (tat ok_X9_spoilt_1 (i := 3) (q := 74) rfl rfl) <|
    V_if_ne (tat ok_X9_spoilt_1 (i := 4) (q := 77) rfl rfl) rfl (fun c4 => V_X9_spoilt_91_1  hk (jx (P := P) kk (Eq.trans (if_neg c3) (if_neg c4)))) (fun c4 => V_iload_n (tat ok_X9_spoilt_1 (i := 5) (q := 78) rfl rfl) 2 rfl rfl <|
    V_if_ne (tat ok_X9_spoilt_1 (i := 6) (q := 81) rfl rfl) rfl (fun c5 => V_iload_n (tat ok_X9_spoilt_1 (i := 9) (q := 87) rfl rfl) 3 rfl rfl <|
    V_pick [0, 1, 2, 4] rfl (V_X9_spoilt_87_1  hk (jx (P := P) kk (Eq.trans (if_neg c3) (Eq.trans (if_pos c4) (if_neg c5)))))) (fun c5 => V_iload (tat ok_X9_spoilt_1 (i := 7) (q := 83) rfl rfl) 4 rfl <|
    V_goto (tat ok_X9_spoilt_1 (i := 8) (q := 86) rfl rfl) rfl <|
    V_pick [0, 1, 2, 4] rfl (V_X9_spoilt_87_1  hk (jx (P := P) kk (Eq.trans (if_neg c3) (Eq.trans (if_pos c4) (if_pos c5))))))))
def F_X9_spoilt_106 (I : WI) (L : WL) (a1 : Int32) (s0 : Int32) : Int32 :=
  s0
theorem V_X9_spoilt_106  {I : WI} {L : WL} {a1 : Int32} {s0 : Int32} {P : Int32 → Prop} {t : Tg} (hr : ∀ v, P v → t = (some (.int v), ly0, I, L, R0)) (kk : P (F_X9_spoilt_106 I L a1 s0)) : V (zM x_X9_spoilt 4 0 0 t) 106 [(0, .ref 33), (1, .int a1)] [.int s0] ly0 I L R0 0 0 :=
  V_iret (tat ok_X9_spoilt_1 (i := 19) (q := 107) rfl rfl) _ rfl (nar_int _) (hr s0 (jx (P := P) kk rfl)) ⟨(Nat.le_of_ble_eq_true rfl), (Nat.le_of_ble_eq_true rfl)⟩
def F_X9_spoilt_97 (I : WI) (L : WL) (a1 : Int32) (a2 : Int32) (a3 : Int32) : Int32 :=
  (if a1 = 0 then (F_X9_spoilt_106 I L a1 a2) else (F_X9_spoilt_106 I L a1 a3))
theorem V_X9_spoilt_97  {I : WI} {L : WL} {a1 : Int32} {a2 : Int32} {a3 : Int32} {P : Int32 → Prop} {t : Tg} (hr : ∀ v, P v → t = (some (.int v), ly0, I, L, R0)) (kk : P (F_X9_spoilt_97 I L a1 a2 a3)) : V (zM x_X9_spoilt 4 0 0 t) 97 [(0, .ref 33), (1, .int a1), (2, .int a2), (3, .int a3)] [] ly0 I L R0 0 0 :=
  V_iload_n (tat ok_X9_spoilt_1 (i := 14) (q := 98) rfl rfl) 1 rfl rfl <|
    V_if_ne (tat ok_X9_spoilt_1 (i := 15) (q := 101) rfl rfl) rfl (fun c6 => V_iload_n (tat ok_X9_spoilt_1 (i := 18) (q := 106) rfl rfl) 3 rfl rfl <|
    V_pick [0, 1] rfl (V_X9_spoilt_106  hr (jx (P := P) kk (if_neg c6)))) (fun c6 => V_iload_n (tat ok_X9_spoilt_1 (i := 16) (q := 102) rfl rfl) 2 rfl rfl <|
    V_goto (tat ok_X9_spoilt_1 (i := 17) (q := 105) rfl rfl) rfl <|
    V_pick [0, 1] rfl (V_X9_spoilt_106  hr (jx (P := P) kk (if_pos c6))))
def F_X9_spoilt_30 (I : WI) (L : WL) (a1 : Int32) (a2 : Int32) (a3 : Int32) (a4 : Int32) : Int32 :=
  (fun q : Int32 × (Int32 × Int32) => (F_X9_spoilt_97 I L a1 (p1 (p2 q)) (p2 (p2 q)))) (fr0 (fun i x => (F_X9_spoilt_37_1 I L a1 i (p1 x) (p2 x))) 64 (fu a4 64) a4 (a2, a3))
theorem V_X9_spoilt_30  {I : WI} {L : WL} {a1 : Int32} {a2 : Int32} {a3 : Int32} {a4 : Int32} {P : Int32 → Prop} {t : Tg} (hb2 : bz a2 = a2) (hb4 : bz a4 = a4) (hr : ∀ v, P v → t = (some (.int v), ly0, I, L, R0)) (kk : P (F_X9_spoilt_30 I L a1 a2 a3 a4)) : V (zM x_X9_spoilt 4 0 0 t) 30 [(0, .ref 33), (1, .int a1), (2, .int a2), (3, .int a3), (4, .int a4)] [] ly0 I L R0 0 0 :=
  V_fr0 (fun i x => (F_X9_spoilt_37_1 I L a1 i (p1 x) (p2 x))) 64 (fun i x => V (zM x_X9_spoilt 4 0 0 t) 30 [(0, .ref 33), (1, .int a1), (2, .int (p1 x)), (3, .int (p2 x)), (4, .int i)] [] ly0 I L R0 0 0) (fun i x => P ((F_X9_spoilt_97 I L a1 (p1 x) (p2 x)))) (c := a4) (s := (a2, a3)) (fun i x kx kb => V_iload (tat ok_X9_spoilt_0 (i := 19) (q := 32) rfl rfl) 4 rfl <|
    V_bipush (tat ok_X9_spoilt_0 (i := 20) (q := 34) rfl rfl) bp_64 <|
    V_icmp_ge (tat ok_X9_spoilt_0 (i := 21) (q := 37) rfl rfl) rfl (fun c0 => V_pick [0, 1, 2, 3] rfl (V_X9_spoilt_97  hr (kx c0))) (fun c0 => V_X9_spoilt_37_1 (P := (fun x => (fun i x => V (zM x_X9_spoilt 4 0 0 t) 30 [(0, .ref 33), (1, .int a1), (2, .int (p1 x)), (3, .int (p2 x)), (4, .int i)] [] ly0 I L R0 0 0) (i + 1) x))  (fun _ e => e) (kb c0))) kk
def F_X9_spoilt (I : WI) (L : WL) (a1 : Int32) : Int32 :=
  (if (F_X9_in (Int32.toInt64 a1) 0 1) = 0 then (-1) else (if (bz (I 33 4)) = 0 then (-2) else (F_X9_spoilt_30 I L a1 0 (-4) 0)))
theorem V_X9_spoilt  {I : WI} {L : WL} {a1 : Int32}  {P : Int32 → Prop} {t : Tg} (hr : ∀ v, P v → t = (some (.int v), ly0, I, L, R0)) (kk : P (F_X9_spoilt I L a1)) : V (zM x_X9_spoilt 4 0 0 t) 0 [(0, .ref 33), (1, .int a1)] [] ly0 I L R0 0 0 :=
  V_iload_n (tat ok_X9_spoilt_0 (i := 0) (q := 1) rfl rfl) 1 rfl rfl <|
    V_i2l (tat ok_X9_spoilt_0 (i := 1) (q := 2) rfl rfl) <|
    V_lconst (v := 0) (tat ok_X9_spoilt_0 (i := 2) (q := 3) rfl rfl) rfl <|
    V_lconst (v := 1) (tat ok_X9_spoilt_0 (i := 3) (q := 4) rfl rfl) rfl <|
    V_cs3 (ct_X9_in I L (Int32.toInt64 a1) 0 1 ) mo_X9_in (tat ok_X9_spoilt_0 (i := 4) (q := 7) rfl rfl) ml_X9_97 ⟨(Nat.le_of_ble_eq_true rfl), (Nat.le_of_ble_eq_true rfl)⟩ ⟨(Nat.le_of_ble_eq_true rfl), (Nat.le_of_ble_eq_true rfl)⟩ (Nat.le_of_ble_eq_true rfl) <|
    V_if_ne (tat ok_X9_spoilt_0 (i := 5) (q := 10) rfl rfl) rfl (fun c1 => V_aload_n (tat ok_X9_spoilt_0 (i := 8) (q := 13) rfl rfl) 0 rfl rfl <|
    V_getZ (tat ok_X9_spoilt_0 (i := 9) (q := 16) rfl rfl) fk_X9_86 rfl <|
    V_if_ne (tat ok_X9_spoilt_0 (i := 10) (q := 19) rfl rfl) rfl (fun c2 => V_iconst (tat ok_X9_spoilt_0 (i := 13) (q := 23) rfl rfl) ic_0 <|
    V_istore_n (lv' := [(2, .int 0), (0, .ref 33), (1, .int a1)]) (tat ok_X9_spoilt_0 (i := 14) (q := 24) rfl rfl) rfl (Nat.le_of_ble_eq_true rfl) rfl <|
    V_bipush (tat ok_X9_spoilt_0 (i := 15) (q := 26) rfl rfl) bp_m4 <|
    V_istore_n (lv' := [(3, .int (-4)), (2, .int 0), (0, .ref 33), (1, .int a1)]) (tat ok_X9_spoilt_0 (i := 16) (q := 27) rfl rfl) rfl (Nat.le_of_ble_eq_true rfl) rfl <|
    V_iconst (tat ok_X9_spoilt_0 (i := 17) (q := 28) rfl rfl) ic_0 <|
    V_istore (lv' := [(4, .int 0), (3, .int (-4)), (2, .int 0), (0, .ref 33), (1, .int a1)]) (tat ok_X9_spoilt_0 (i := 18) (q := 30) rfl rfl) (Nat.le_of_ble_eq_true rfl) rfl <|
    V_pick [3, 4, 2, 1, 0] rfl (V_X9_spoilt_30 rfl rfl hr (jx (P := P) kk (Eq.trans (if_neg c1) (if_neg c2))))) (fun c2 => V_bipush (tat ok_X9_spoilt_0 (i := 11) (q := 21) rfl rfl) bp_m2 <|
    V_iret (tat ok_X9_spoilt_0 (i := 12) (q := 22) rfl rfl) _ rfl (nar_int _) (hr (-2) (jx (P := P) kk (Eq.trans (if_neg c1) (if_pos c2)))) ⟨(Nat.le_of_ble_eq_true rfl), (Nat.le_of_ble_eq_true rfl)⟩)) (fun c1 => V_iconst (tat ok_X9_spoilt_0 (i := 6) (q := 11) rfl rfl) ic_m1 <|
    V_iret (tat ok_X9_spoilt_0 (i := 7) (q := 12) rfl rfl) _ rfl (nar_int _) (hr (-1) (jx (P := P) kk (if_pos c1))) ⟨(Nat.le_of_ble_eq_true rfl), (Nat.le_of_ble_eq_true rfl)⟩)
theorem ct_X9_spoilt  (I : WI) (L : WL) (a1 : Int32)  : Ct x_X9_spoilt 4 [.ref 33, .int a1] ly0 I L R0 0 0 (some (.int (F_X9_spoilt I L a1)), ly0, I, L, R0) :=
  Ct_of_V mo_X9_spoilt.1 (Nat.le_of_ble_eq_true rfl) (V_X9_spoilt (P := fun x => x = (F_X9_spoilt I L a1))  (fun _ e => by rw [e]) rfl)
def F_X9_both_144_2 (I : WI) (L : WL) (a1 : Int32) (a4 : Int32) (a5 : Int32) (a2 : Int32) (a3 : Int32) : (Int32 × Int32) :=
  (a2, a3)
theorem V_X9_both_144_2  {I : WI} {L : WL} {a1 : Int32} {a4 : Int32} {a5 : Int32} {a2 : Int32} {a3 : Int32} {P : (Int32 × Int32) → Prop} {t : Tg} (hk : ∀ x : (Int32 × Int32), P x → V (zM x_X9_both 4 0 0 t) 43 [(0, .ref 33), (1, .int a1), (2, .int (p1 x)), (3, .int (p2 x)), (4, .int a4), (5, .int (a5 + 1))] [] ly0 I L R0 0 0) (kk : P (F_X9_both_144_2 I L a1 a4 a5 a2 a3)) : V (zM x_X9_both 4 0 0 t) 144 [(0, .ref 33), (1, .int a1), (2, .int a2), (3, .int a3), (4, .int a4), (5, .int a5)] [] ly0 I L R0 0 0 :=
  V_iinc (v := (a5 + 1)) (lv' := [(5, .int (a5 + 1)), (0, .ref 33), (1, .int a1), (2, .int a2), (3, .int a3), (4, .int a4)]) (tat ok_X9_both_2 (i := 2) (q := 147) rfl rfl) 5 rfl (ia ic_1) (Nat.le_of_ble_eq_true rfl) rfl <|
    V_goto (tat ok_X9_both_2 (i := 3) (q := 150) rfl rfl) rfl <|
    V_pick [1, 2, 3, 4, 5, 0] rfl (hk (a2, a3) (jx (P := P) kk rfl))
def F_X9_both_140_2 (I : WI) (L : WL) (a1 : Int32) (a4 : Int32) (a5 : Int32) (a2 : Int32) (s0 : Int32) : (Int32 × Int32) :=
  (F_X9_both_144_2 I L a1 a4 a5 (a2 + 1) s0)
theorem V_X9_both_140_2  {I : WI} {L : WL} {a1 : Int32} {a4 : Int32} {a5 : Int32} {a2 : Int32} {s0 : Int32} {P : (Int32 × Int32) → Prop} {t : Tg} (hk : ∀ x : (Int32 × Int32), P x → V (zM x_X9_both 4 0 0 t) 43 [(0, .ref 33), (1, .int a1), (2, .int (p1 x)), (3, .int (p2 x)), (4, .int a4), (5, .int (a5 + 1))] [] ly0 I L R0 0 0) (kk : P (F_X9_both_140_2 I L a1 a4 a5 a2 s0)) : V (zM x_X9_both 4 0 0 t) 140 [(0, .ref 33), (1, .int a1), (2, .int a2), (4, .int a4), (5, .int a5)] [.int s0] ly0 I L R0 0 0 :=
  V_istore_n (lv' := [(3, .int s0), (0, .ref 33), (1, .int a1), (2, .int a2), (4, .int a4), (5, .int a5)]) (tat ok_X9_both_2 (i := 0) (q := 141) rfl rfl) rfl (Nat.le_of_ble_eq_true rfl) rfl <|
    V_iinc (v := (a2 + 1)) (lv' := [(2, .int (a2 + 1)), (3, .int s0), (0, .ref 33), (1, .int a1), (4, .int a4), (5, .int a5)]) (tat ok_X9_both_2 (i := 1) (q := 144) rfl rfl) 3 rfl (ia ic_1) (Nat.le_of_ble_eq_true rfl) rfl <|
    V_pick [2, 3, 0, 1, 4, 5] rfl (V_X9_both_144_2  hk (jx (P := P) kk rfl))
