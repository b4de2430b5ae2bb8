theorem ct_X9_turn  (I : WI) (L : WL) (a1 : Int32) (a2 : Int32)  : Ct x_X9_turn 3 [.ref 33, .int a1, .int a2] ly0 I L R0 0 0 (some (.int (p1 (F_X9_turn I L a1 a2))), ly0, I, (p2 (F_X9_turn I L a1 a2)), R0) :=
  Ct_of_V mo_X9_turn.1 (Nat.le_of_ble_eq_true rfl) (V_X9_turn (P := fun x => x = (F_X9_turn I L a1 a2))  (fun _ e => by rw [e]) rfl)
def F_X9_go_25_2 (I : WI) (L : WL) (a1 : Int32) (a2 : Int32) (a3 : Int32) : Option (WL ⊕ (Int32 × WL)) :=
  (if (4 * a2) < 0 ∨ 48 ≤ Int32.toNatClampNeg (4 * a2) then none else (if (I 34 (Int32.toNatClampNeg (4 * a2))) < a3 then some (.inl L) else (if ((4 * a2) + a3) < 0 ∨ 48 ≤ Int32.toNatClampNeg ((4 * a2) + a3) then none else (if ((4 * a2) + a3) < 0 ∨ 48 ≤ Int32.toNatClampNeg ((4 * a2) + a3) then none else some (.inr ((a3 + 1), (u2 L 33 2 ((L 33 2) ^^^ (F_X9_actSet I ((I 34 (Int32.toNatClampNeg ((4 * a2) + a3))) / 20) ((I 34 (Int32.toNatClampNeg ((4 * a2) + a3))) - (I 34 (Int32.toNatClampNeg ((4 * a2) + a3))) / 20 * 20))))))))))
theorem V_X9_go_25_2  {I : WI} {L : WL} {a1 : Int32} {a2 : Int32} {a3 : Int32} {P : (WL ⊕ (Int32 × WL)) → Prop} {t : Tg} (he : ∀ x : WL, P (.inl x) → V (zM x_X9_go 3 0 0 t) 82 [(0, .ref 33), (1, .int a1), (2, .int a2)] [] ly0 I x R0 0 0) (hk : ∀ x : (Int32 × WL), P (.inr x) → V (zM x_X9_go 3 0 0 t) 25 [(0, .ref 33), (1, .int a1), (2, .int a2), (3, .int (p1 x))] [] ly0 I (p2 x) R0 0 0) (kk : oP P (F_X9_go_25_2 I L a1 a2 a3)) : V (zM x_X9_go 3 0 0 t) 25 [(0, .ref 33), (1, .int a1), (2, .int a2), (3, .int a3)] [] ly0 I L R0 0 0 :=
  V_iload_n (tat ok_X9_go_0 (i := 17) (q := 26) rfl rfl) 3 rfl rfl <|
    V_aload_n (tat ok_X9_go_0 (i := 18) (q := 27) rfl rfl) 0 rfl rfl <|
    V_getR (tat ok_X9_go_0 (i := 19) (q := 30) rfl rfl) fk_X9_7 rfl rfl <|
    V_iconst (tat ok_X9_go_0 (i := 20) (q := 31) rfl rfl) ic_4 <|
    V_iload_n (tat ok_X9_go_0 (i := 21) (q := 32) rfl rfl) 2 rfl rfl <|
    V_imul (tat ok_X9_go_0 (i := 22) (q := 33) rfl rfl) <|
    (if c2 : (4 * a2) < 0 ∨ 48 ≤ Int32.toNatClampNeg (4 * a2) then ((jx (P := oP P) kk (if_pos c2))).elim else V_iald (tat ok_X9_go_0 (i := 23) (q := 34) rfl rfl) rfl c2 <|
    V_icmp_gt (tat ok_X9_go_0 (i := 24) (q := 37) rfl rfl) rfl (fun c3 => V_pick [0, 1, 2] rfl (he L (jx (P := oP P) kk (Eq.trans (if_neg c2) (if_pos c3))))) (fun c3 => V_aload_n (tat ok_X9_go_0 (i := 25) (q := 38) rfl rfl) 0 rfl rfl <|
    V_dup (tat ok_X9_go_0 (i := 26) (q := 39) rfl rfl) rfl <|
    V_getL (tat ok_X9_go_0 (i := 27) (q := 42) rfl rfl) fk_X9_80 rfl <|
    V_aload_n (tat ok_X9_go_0 (i := 28) (q := 43) rfl rfl) 0 rfl rfl <|
    V_aload_n (tat ok_X9_go_0 (i := 29) (q := 44) rfl rfl) 0 rfl rfl <|
    V_getR (tat ok_X9_go_0 (i := 30) (q := 47) rfl rfl) fk_X9_7 rfl rfl <|
    V_iconst (tat ok_X9_go_0 (i := 31) (q := 48) rfl rfl) ic_4 <|
    V_iload_n (tat ok_X9_go_0 (i := 32) (q := 49) rfl rfl) 2 rfl rfl <|
    V_imul (tat ok_X9_go_0 (i := 33) (q := 50) rfl rfl) <|
    V_iload_n (tat ok_X9_go_0 (i := 34) (q := 51) rfl rfl) 3 rfl rfl <|
    V_iadd (tat ok_X9_go_0 (i := 35) (q := 52) rfl rfl) <|
    (if c4 : ((4 * a2) + a3) < 0 ∨ 48 ≤ Int32.toNatClampNeg ((4 * a2) + a3) then ((jx (P := oP P) kk (Eq.trans (if_neg c2) (Eq.trans (if_neg c3) (if_pos c4))))).elim else V_iald (tat ok_X9_go_0 (i := 36) (q := 53) rfl rfl) rfl c4 <|
    V_bipush (tat ok_X9_go_0 (i := 37) (q := 55) rfl rfl) bp_20 <|
    V_idiv (tat ok_X9_go_0 (i := 38) (q := 56) rfl rfl) (by decide) <|
    V_aload_n (tat ok_X9_go_0 (i := 39) (q := 57) rfl rfl) 0 rfl rfl <|
    V_getR (tat ok_X9_go_1 (i := 0) (q := 60) rfl rfl) fk_X9_7 rfl rfl <|
    V_iconst (tat ok_X9_go_1 (i := 1) (q := 61) rfl rfl) ic_4 <|
    V_iload_n (tat ok_X9_go_1 (i := 2) (q := 62) rfl rfl) 2 rfl rfl <|
    V_imul (tat ok_X9_go_1 (i := 3) (q := 63) rfl rfl) <|
    V_iload_n (tat ok_X9_go_1 (i := 4) (q := 64) rfl rfl) 3 rfl rfl <|
    V_iadd (tat ok_X9_go_1 (i := 5) (q := 65) rfl rfl) <|
    (if c5 : ((4 * a2) + a3) < 0 ∨ 48 ≤ Int32.toNatClampNeg ((4 * a2) + a3) then ((jx (P := oP P) kk (Eq.trans (if_neg c2) (Eq.trans (if_neg c3) (Eq.trans (if_neg c4) (if_pos c5)))))).elim else V_iald (tat ok_X9_go_1 (i := 6) (q := 66) rfl rfl) rfl c5 <|
    V_bipush (tat ok_X9_go_1 (i := 7) (q := 68) rfl rfl) bp_20 <|
    V_irem (tat ok_X9_go_1 (i := 8) (q := 69) rfl rfl) (by decide) <|
    V_cv2 (ct_X9_actSet I L ((I 34 (Int32.toNatClampNeg ((4 * a2) + a3))) / 20) ((I 34 (Int32.toNatClampNeg ((4 * a2) + a3))) - (I 34 (Int32.toNatClampNeg ((4 * a2) + a3))) / 20 * 20) ) mo_X9_actSet (tat ok_X9_go_1 (i := 9) (q := 72) rfl rfl) ml_X9_217 rfl ⟨by decide, _, rfl, rfl⟩ ⟨(Nat.le_of_ble_eq_true rfl), (Nat.le_of_ble_eq_true rfl)⟩ ⟨(Nat.le_of_ble_eq_true rfl), (Nat.le_of_ble_eq_true rfl)⟩ (Nat.le_of_ble_eq_true rfl) <|
    V_lxor (tat ok_X9_go_1 (i := 10) (q := 73) rfl rfl) <|
    V_putL (tat ok_X9_go_1 (i := 11) (q := 76) rfl rfl) fk_X9_80 rfl rfl <|
    V_iinc (v := (a3 + 1)) (lv' := [(3, .int (a3 + 1)), (0, .ref 33), (1, .int a1), (2, .int a2)]) (tat ok_X9_go_1 (i := 12) (q := 79) rfl rfl) 3 rfl (ia ic_1) (Nat.le_of_ble_eq_true rfl) rfl <|
    V_goto (tat ok_X9_go_1 (i := 13) (q := 82) rfl rfl) rfl <|
    V_pick [1, 2, 3, 0] rfl (hk ((a3 + 1), (u2 L 33 2 ((L 33 2) ^^^ (F_X9_actSet I ((I 34 (Int32.toNatClampNeg ((4 * a2) + a3))) / 20) ((I 34 (Int32.toNatClampNeg ((4 * a2) + a3))) - (I 34 (Int32.toNatClampNeg ((4 * a2) + a3))) / 20 * 20))))) (jx (P := oP P) kk (Eq.trans (if_neg c2) (Eq.trans (if_neg c3) (Eq.trans (if_neg c4) (if_neg c5))))))))))
def F_X9_go_82_1 (I : WI) (L : WL) (a1 : Int32) (a2 : Int32) : Option WL :=
  some L
theorem V_X9_go_82_1  {I : WI} {L : WL} {a1 : Int32} {a2 : Int32}  {P : WL → Prop} {t : Tg} (hk : ∀ x : WL, P x → V (zM x_X9_go 3 0 0 t) 18 [(0, .ref 33), (1, .int a1), (2, .int (a2 + 1))] [] ly0 I x R0 0 0) (kk : oP P (F_X9_go_82_1 I L a1 a2)) : V (zM x_X9_go 3 0 0 t) 82 [(0, .ref 33), (1, .int a1), (2, .int a2)] [] ly0 I L R0 0 0 :=
  V_iinc (v := (a2 + 1)) (lv' := [(2, .int (a2 + 1)), (0, .ref 33), (1, .int a1)]) (tat ok_X9_go_1 (i := 14) (q := 85) rfl rfl) 2 rfl (ia ic_1) (Nat.le_of_ble_eq_true rfl) rfl <|
    V_goto (tat ok_X9_go_1 (i := 15) (q := 88) rfl rfl) rfl <|
    V_pick [1, 2, 0] rfl (hk L (jx (P := oP P) kk rfl))
def F_X9_go_25_1 (I : WI) (L : WL) (a1 : Int32) (a2 : Int32) (a3 : Int32) : Option WL :=
  (lpp (fun x => (F_X9_go_25_2 I (p2 x) a1 a2 (p1 x))) 4294967296 (a3, L)).bind (fun q => (F_X9_go_82_1 I q a1 a2))
theorem V_X9_go_25_1  {I : WI} {L : WL} {a1 : Int32} {a2 : Int32} {a3 : Int32} {P : WL → Prop} {t : Tg} (hb3 : bz a3 = a3) (hk : ∀ x : WL, P x → V (zM x_X9_go 3 0 0 t) 18 [(0, .ref 33), (1, .int a1), (2, .int (a2 + 1))] [] ly0 I x R0 0 0) (kk : oP P (F_X9_go_25_1 I L a1 a2 a3)) : V (zM x_X9_go 3 0 0 t) 25 [(0, .ref 33), (1, .int a1), (2, .int a2), (3, .int a3)] [] ly0 I L R0 0 0 :=
  V_lpp (fun x => (F_X9_go_25_2 I (p2 x) a1 a2 (p1 x))) (fun x => V (zM x_X9_go 3 0 0 t) 25 [(0, .ref 33), (1, .int a1), (2, .int a2), (3, .int (p1 x))] [] ly0 I (p2 x) R0 0 0) (fun x => oP P ((F_X9_go_82_1 I x a1 a2))) (s := (a3, L)) (fun x e0 => V_X9_go_25_2 (P := Sum.elim (fun x => oP P ((F_X9_go_82_1 I x a1 a2))) (fun x => V (zM x_X9_go 3 0 0 t) 25 [(0, .ref 33), (1, .int a1), (2, .int a2), (3, .int (p1 x))] [] ly0 I (p2 x) R0 0 0))  (fun x e => V_X9_go_82_1  hk e) (fun _ e => e) e0) (oP_bind (f := fun q => _) kk)
def F_X9_go_23_1 (I : WI) (L : WL) (a1 : Int32) (a2 : Int32) : Option WL :=
  (F_X9_go_25_1 I L a1 a2 1)
theorem V_X9_go_23_1  {I : WI} {L : WL} {a1 : Int32} {a2 : Int32}  {P : WL → Prop} {t : Tg} (hk : ∀ x : WL, P x → V (zM x_X9_go 3 0 0 t) 18 [(0, .ref 33), (1, .int a1), (2, .int (a2 + 1))] [] ly0 I x R0 0 0) (kk : oP P (F_X9_go_23_1 I L a1 a2)) : V (zM x_X9_go 3 0 0 t) 23 [(0, .ref 33), (1, .int a1), (2, .int a2)] [] ly0 I L R0 0 0 :=
  V_iconst (tat ok_X9_go_0 (i := 15) (q := 24) rfl rfl) ic_1 <|
    V_istore_n (lv' := [(3, .int 1), (0, .ref 33), (1, .int a1), (2, .int a2)]) (tat ok_X9_go_0 (i := 16) (q := 25) rfl rfl) rfl (Nat.le_of_ble_eq_true rfl) rfl <|
    V_pick [1, 2, 3, 0] rfl (V_X9_go_25_1 rfl hk (jx (P := oP P) kk rfl))
def F_X9_go_88 (I : WI) (L : WL) (a1 : Int32) : Option (Int32 × WL) :=
  some ((F_X9_many (L 33 2)), L)
theorem V_X9_go_88  {I : WI} {L : WL} {a1 : Int32}  {P : (Int32 × WL) → Prop} {t : Tg} (hr : ∀ v, P v → t = (some (.int (p1 v)), ly0, I, (p2 v), R0)) (kk : oP P (F_X9_go_88 I L a1)) : V (zM x_X9_go 3 0 0 t) 88 [(0, .ref 33), (1, .int a1)] [] ly0 I L R0 0 0 :=
  V_aload_n (tat ok_X9_go_1 (i := 16) (q := 89) rfl rfl) 0 rfl rfl <|
    V_getL (tat ok_X9_go_1 (i := 17) (q := 92) rfl rfl) fk_X9_80 rfl <|
    V_cs1 (ct_X9_many I L (L 33 2) ) mo_X9_many (tat ok_X9_go_1 (i := 18) (q := 95) rfl rfl) ml_X9_220 ⟨(Nat.le_of_ble_eq_true rfl), (Nat.le_of_ble_eq_true rfl)⟩ ⟨(Nat.le_of_ble_eq_true rfl), (Nat.le_of_ble_eq_true rfl)⟩ (Nat.le_of_ble_eq_true rfl) <|
    V_iret (tat ok_X9_go_1 (i := 19) (q := 96) rfl rfl) _ rfl (nar_int _) (hr ((F_X9_many (L 33 2)), L) (jx (P := oP P) kk rfl)) ⟨(Nat.le_of_ble_eq_true rfl), (Nat.le_of_ble_eq_true rfl)⟩
def F_X9_go_18 (I : WI) (L : WL) (a1 : Int32) (a2 : Int32) : Option (Int32 × WL) :=
  (frp0 (fun i x => (F_X9_go_23_1 I x a1 i)) a1 (fu a2 a1) a2 L).bind (fun q => (F_X9_go_88 I (p2 q) a1))
theorem V_X9_go_18  {I : WI} {L : WL} {a1 : Int32} {a2 : Int32} {P : (Int32 × WL) → Prop} {t : Tg} (hb2 : bz a2 = a2) (hr : ∀ v, P v → t = (some (.int (p1 v)), ly0, I, (p2 v), R0)) (kk : oP P (F_X9_go_18 I L a1 a2)) : V (zM x_X9_go 3 0 0 t) 18 [(0, .ref 33), (1, .int a1), (2, .int a2)] [] ly0 I L R0 0 0 :=
  V_frp0 (fun i x => (F_X9_go_23_1 I x a1 i)) a1 (fun i x => V (zM x_X9_go 3 0 0 t) 18 [(0, .ref 33), (1, .int a1), (2, .int i)] [] ly0 I x R0 0 0) (fun i x => oP P ((F_X9_go_88 I x a1))) (c := a2) (s := L) (fun i x kx kb => V_iload_n (tat ok_X9_go_0 (i := 12) (q := 19) rfl rfl) 2 rfl rfl <|
    V_iload_n (tat ok_X9_go_0 (i := 13) (q := 20) rfl rfl) 1 rfl rfl <|
    V_icmp_ge (tat ok_X9_go_0 (i := 14) (q := 23) rfl rfl) rfl (fun c0 => V_pick [0, 1] rfl (V_X9_go_88  hr (kx c0))) (fun c0 => V_X9_go_23_1 (P := (fun x => (fun i x => V (zM x_X9_go 3 0 0 t) 18 [(0, .ref 33), (1, .int a1), (2, .int i)] [] ly0 I x R0 0 0) (i + 1) x))  (fun _ e => e) (kb c0))) (oP_bind (f := fun q => _) kk)
def F_X9_go (I : WI) (L : WL) (a1 : Int32) : Option (Int32 × WL) :=
  (if (F_X9_in (Int32.toInt64 a1) 0 (Int32.toInt64 (I 33 5))) = 0 then some ((-1), L) else (F_X9_go_18 I L a1 0))
theorem V_X9_go  {I : WI} {L : WL} {a1 : Int32}  {P : (Int32 × WL) → Prop} {t : Tg} (hr : ∀ v, P v → t = (some (.int (p1 v)), ly0, I, (p2 v), R0)) (kk : oP P (F_X9_go I L a1)) : V (zM x_X9_go 3 0 0 t) 0 [(0, .ref 33), (1, .int a1)] [] ly0 I L R0 0 0 :=
  V_iload_n (tat ok_X9_go_0 (i := 0) (q := 1) rfl rfl) 1 rfl rfl <|
    V_i2l (tat ok_X9_go_0 (i := 1) (q := 2) rfl rfl) <|
    V_lconst (v := 0) (tat ok_X9_go_0 (i := 2) (q := 3) rfl rfl) rfl <|
    V_aload_n (tat ok_X9_go_0 (i := 3) (q := 4) rfl rfl) 0 rfl rfl <|
    V_getI (tat ok_X9_go_0 (i := 4) (q := 7) rfl rfl) fk_X9_89 rfl <|
    V_i2l (tat ok_X9_go_0 (i := 5) (q := 8) rfl rfl) <|
    V_cs3 (ct_X9_in I L (Int32.toInt64 a1) 0 (Int32.toInt64 (I 33 5)) ) mo_X9_in (tat ok_X9_go_0 (i := 6) (q := 11) rfl rfl) ml_X9_97 ⟨(Nat.le_of_ble_eq_true rfl), (Nat.le_of_ble_eq_true rfl)⟩ ⟨(Nat.le_of_ble_eq_true rfl), (Nat.le_of_ble_eq_true rfl)⟩ (Nat.le_of_ble_eq_true rfl) <|
    V_if_ne (tat ok_X9_go_0 (i := 7) (q := 14) rfl rfl) rfl (fun c1 => V_iconst (tat ok_X9_go_0 (i := 10) (q := 17) rfl rfl) ic_0 <|
    V_istore_n (lv' := [(2, .int 0), (0, .ref 33), (1, .int a1)]) (tat ok_X9_go_0 (i := 11) (q := 18) rfl rfl) rfl (Nat.le_of_ble_eq_true rfl) rfl <|
    V_pick [1, 2, 0] rfl (V_X9_go_18 rfl hr (jx (P := oP P) kk (if_neg c1)))) (fun c1 => V_iconst (tat ok_X9_go_0 (i := 8) (q := 15) rfl rfl) ic_m1 <|
    V_iret (tat ok_X9_go_0 (i := 9) (q := 16) rfl rfl) _ rfl (nar_int _) (hr ((-1), L) (jx (P := oP P) kk (if_pos c1))) ⟨(Nat.le_of_ble_eq_true rfl), (Nat.le_of_ble_eq_true rfl)⟩)
theorem ct_X9_go  (I : WI) (L : WL) (a1 : Int32)  {v : (Int32 × WL)} (h : (F_X9_go I L a1) = some v) : Ct x_X9_go 3 [.ref 33, .int a1] ly0 I L R0 0 0 (some (.int (p1 v)), ly0, I, (p2 v), R0) :=
  Ct_of_V mo_X9_go.1 (Nat.le_of_ble_eq_true rfl) (V_X9_go (P := fun x => x = v)  (fun _ e => by rw [e]) (by rw [h]; exact rfl))
def F_X9_formOf_73_2 (a0 : Int64) (a2 : Int32) (a3 : Int32) (a6 : Int32) (a7 : Int32) (s0 : Int64) (s1 : Int64) : Int64 :=
  (s1 ||| s0)
theorem V_X9_formOf_73_2  {I : WI} {L : WL} {a0 : Int64} {a2 : Int32} {a3 : Int32} {a6 : Int32} {a7 : Int32} {s0 : Int64} {s1 : Int64} {P : Int64 → Prop} {t : Tg} (hk : ∀ x : Int64, P x → V (zM x_X9_formOf 2 0 0 t) 15 [(0, .long a0), (2, .int a2), (3, .int a3), (4, .long x), (6, .int a6), (7, .int (a7 + 1))] [] ly0 I L R0 0 0) (kk : P (F_X9_formOf_73_2 a0 a2 a3 a6 a7 s0 s1)) : V (zM x_X9_formOf 2 0 0 t) 73 [(0, .long a0), (2, .int a2), (3, .int a3), (6, .int a6), (7, .int a7)] [.long s0, .long s1] ly0 I L R0 0 0 :=
  V_lor (tat ok_X9_formOf_1 (i := 1) (q := 74) rfl rfl) <|
    V_lstore (lv' := [(4, .long (s1 ||| s0)), (0, .long a0), (2, .int a2), (3, .int a3), (6, .int a6), (7, .int a7)]) (tat ok_X9_formOf_1 (i := 2) (q := 76) rfl rfl) (Nat.le_of_ble_eq_true rfl) rfl <|
    V_iinc (v := (a7 + 1)) (lv' := [(7, .int (a7 + 1)), (4, .long (s1 ||| s0)), (0, .long a0), (2, .int a2), (3, .int a3), (6, .int a6)]) (tat ok_X9_formOf_1 (i := 3) (q := 79) rfl rfl) 5 rfl (ia ic_1) (Nat.le_of_ble_eq_true rfl) rfl <|
    V_goto (tat ok_X9_formOf_1 (i := 4) (q := 82) rfl rfl) rfl <|
    V_pick [2, 3, 4, 1, 5, 0] rfl (hk (s1 ||| s0) (jx (P := P) kk rfl))
def F_X9_formOf_21_2 (a0 : Int64) (a2 : Int32) (a3 : Int32) (a6 : Int32) (a7 : Int32) (a4 : Int64) : Int64 :=
  (if ((((F_X9_isDark a0 a6 a7) ^^^ (F_X9_isDark a0 a6 0)) ^^^ (F_X9_isDark a0 0 a7)) ^^^ (F_X9_isDark a0 0 0)) = 1 then (F_X9_formOf_73_2 a0 a2 a3 a6 a7 (F_X9_bitOf a6 a7) a4) else (F_X9_formOf_73_2 a0 a2 a3 a6 a7 0 a4))
theorem V_X9_formOf_21_2  {I : WI} {L : WL} {a0 : Int64} {a2 : Int32} {a3 : Int32} {a6 : Int32} {a7 : Int32} {a4 : Int64} {P : Int64 → Prop} {t : Tg} (hk : ∀ x : Int64, P x → V (zM x_X9_formOf 2 0 0 t) 15 [(0, .long a0), (2, .int a2), (3, .int a3), (4, .long x), (6, .int a6), (7, .int (a7 + 1))] [] ly0 I L R0 0 0) (kk : P (F_X9_formOf_21_2 a0 a2 a3 a6 a7 a4)) : V (zM x_X9_formOf 2 0 0 t) 21 [(0, .long a0), (2, .int a2), (3, .int a3), (4, .long a4), (6, .int a6), (7, .int a7)] [] ly0 I L R0 0 0 :=
  V_lload_n (tat ok_X9_formOf_0 (i := 12) (q := 22) rfl rfl) 0 rfl rfl <|
    V_iload (tat ok_X9_formOf_0 (i := 13) (q := 24) rfl rfl) 4 rfl <|
    V_iload (tat ok_X9_formOf_0 (i := 14) (q := 26) rfl rfl) 5 rfl <|
    V_cs3 (ct_X9_isDark I L a0 a6 a7 ) mo_X9_isDark (tat ok_X9_formOf_0 (i := 15) (q := 29) rfl rfl) ml_X9_210 ⟨(Nat.le_of_ble_eq_true rfl), (Nat.le_of_ble_eq_true rfl)⟩ ⟨(Nat.le_of_ble_eq_true rfl), (Nat.le_of_ble_eq_true rfl)⟩ (Nat.le_of_ble_eq_true rfl) <|
    V_lload_n (tat ok_X9_formOf_0 (i := 16) (q := 30) rfl rfl) 0 rfl rfl <|
    V_iload (tat ok_X9_formOf_0 (i := 17) (q := 32) rfl rfl) 4 rfl <|
    V_iconst (tat ok_X9_formOf_0 (i := 18) (q := 33) rfl rfl) ic_0 <|
    V_cs3 (ct_X9_isDark I L a0 a6 0 ) mo_X9_isDark (tat ok_X9_formOf_0 (i := 19) (q := 36) rfl rfl) ml_X9_210 ⟨(Nat.le_of_ble_eq_true rfl), (Nat.le_of_ble_eq_true rfl)⟩ ⟨(Nat.le_of_ble_eq_true rfl), (Nat.le_of_ble_eq_true rfl)⟩ (Nat.le_of_ble_eq_true rfl) <|
    V_ixor (tat ok_X9_formOf_0 (i := 20) (q := 37) rfl rfl) <|
    V_lload_n (tat ok_X9_formOf_0 (i := 21) (q := 38) rfl rfl) 0 rfl rfl <|
    V_iconst (tat ok_X9_formOf_0 (i := 22) (q := 39) rfl rfl) ic_0 <|
    V_iload (tat ok_X9_formOf_0 (i := 23) (q := 41) rfl rfl) 5 rfl <|
    V_cs3 (ct_X9_isDark I L a0 0 a7 ) mo_X9_isDark (tat ok_X9_formOf_0 (i := 24) (q := 44) rfl rfl) ml_X9_210 ⟨(Nat.le_of_ble_eq_true rfl), (Nat.le_of_ble_eq_true rfl)⟩ ⟨(Nat.le_of_ble_eq_true rfl), (Nat.le_of_ble_eq_true rfl)⟩ (Nat.le_of_ble_eq_true rfl) <|
    V_ixor (tat ok_X9_formOf_0 (i := 25) (q := 45) rfl rfl) <|
    V_lload_n (tat ok_X9_formOf_0 (i := 26) (q := 46) rfl rfl) 0 rfl rfl <|
    V_iconst (tat ok_X9_formOf_0 (i := 27) (q := 47) rfl rfl) ic_0 <|
    V_iconst (tat ok_X9_formOf_0 (i := 28) (q := 48) rfl rfl) ic_0 <|
    V_cs3 (ct_X9_isDark I L a0 0 0 ) mo_X9_isDark (tat ok_X9_formOf_0 (i := 29) (q := 51) rfl rfl) ml_X9_210 ⟨(Nat.le_of_ble_eq_true rfl), (Nat.le_of_ble_eq_true rfl)⟩ ⟨(Nat.le_of_ble_eq_true rfl), (Nat.le_of_ble_eq_true rfl)⟩ (Nat.le_of_ble_eq_true rfl) <|
    V_ixor (tat ok_X9_formOf_0 (i := 30) (q := 52) rfl rfl) <|
    V_istore (lv' := [(8, .int ((((F_X9_isDark a0 a6 a7) ^^^ (F_X9_isDark a0 a6 0)) ^^^ (F_X9_isDark a0 0 a7)) ^^^ (F_X9_isDark a0 0 0))), (0, .long a0), (2, .int a2), (3, .int a3), (4, .long a4), (6, .int a6), (7, .int a7)]) (tat ok_X9_formOf_0 (i := 31) (q := 54) rfl rfl) (Nat.le_of_ble_eq_true rfl) rfl <|
    V_lload (tat ok_X9_formOf_0 (i := 32) (q := 56) rfl rfl) 4 rfl <|
    V_iload (tat ok_X9_formOf_0 (i := 33) (q := 58) rfl rfl) 0 rfl <|
    V_iconst (tat ok_X9_formOf_0 (i := 34) (q := 59) rfl rfl) ic_1 <|
    V_icmp_ne (tat ok_X9_formOf_0 (i := 35) (q := 62) rfl rfl) rfl (fun c1 => V_lconst (v := 0) (tat ok_X9_formOf_1 (i := 0) (q := 73) rfl rfl) rfl <|
    V_pick [1, 2, 3, 5, 6] rfl (V_X9_formOf_73_2  hk (jx (P := P) kk (if_neg c1)))) (fun c1 => V_iload (tat ok_X9_formOf_0 (i := 36) (q := 64) rfl rfl) 5 rfl <|
    V_iload (tat ok_X9_formOf_0 (i := 37) (q := 66) rfl rfl) 6 rfl <|
    V_cs2 (ct_X9_bitOf I L a6 a7 ) mo_X9_bitOf (tat ok_X9_formOf_0 (i := 38) (q := 69) rfl rfl) ml_X9_155 ⟨(Nat.le_of_ble_eq_true rfl), (Nat.le_of_ble_eq_true rfl)⟩ ⟨(Nat.le_of_ble_eq_true rfl), (Nat.le_of_ble_eq_true rfl)⟩ (Nat.le_of_ble_eq_true rfl) <|
    V_goto (tat ok_X9_formOf_0 (i := 39) (q := 72) rfl rfl) rfl <|
    V_pick [1, 2, 3, 5, 6] rfl (V_X9_formOf_73_2  hk (jx (P := P) kk (if_pos c1))))
def F_X9_formOf_82_1 (a0 : Int64) (a2 : Int32) (a3 : Int32) (a6 : Int32) (a4 : Int64) : Int64 :=
  a4
theorem V_X9_formOf_82_1  {I : WI} {L : WL} {a0 : Int64} {a2 : Int32} {a3 : Int32} {a6 : Int32} {a4 : Int64} {P : Int64 → Prop} {t : Tg} (hk : ∀ x : Int64, P x → V (zM x_X9_formOf 2 0 0 t) 6 [(0, .long a0), (2, .int a2), (3, .int a3), (4, .long x), (6, .int (a6 + 1))] [] ly0 I L R0 0 0) (kk : P (F_X9_formOf_82_1 a0 a2 a3 a6 a4)) : V (zM x_X9_formOf 2 0 0 t) 82 [(0, .long a0), (2, .int a2), (3, .int a3), (4, .long a4), (6, .int a6)] [] ly0 I L R0 0 0 :=
  V_iinc (v := (a6 + 1)) (lv' := [(6, .int (a6 + 1)), (0, .long a0), (2, .int a2), (3, .int a3), (4, .long a4)]) (tat ok_X9_formOf_1 (i := 5) (q := 85) rfl rfl) 4 rfl (ia ic_1) (Nat.le_of_ble_eq_true rfl) rfl <|
    V_goto (tat ok_X9_formOf_1 (i := 6) (q := 88) rfl rfl) rfl <|
    V_pick [1, 2, 3, 4, 0] rfl (hk a4 (jx (P := P) kk rfl))
def F_X9_formOf_15_1 (a0 : Int64) (a2 : Int32) (a3 : Int32) (a6 : Int32) (a4 : Int64) (a7 : Int32) : Int64 :=
  (fun q : Int32 × Int64 => (F_X9_formOf_82_1 a0 a2 a3 a6 (p2 q))) (fr0 (fun i x => (F_X9_formOf_21_2 a0 a2 a3 a6 i x)) a3 (fu a7 a3) a7 a4)
theorem V_X9_formOf_15_1  {I : WI} {L : WL} {a0 : Int64} {a2 : Int32} {a3 : Int32} {a6 : Int32} {a4 : Int64} {a7 : Int32} {P : Int64 → Prop} {t : Tg} (hb7 : bz a7 = a7) (hk : ∀ x : Int64, P x → V (zM x_X9_formOf 2 0 0 t) 6 [(0, .long a0), (2, .int a2), (3, .int a3), (4, .long x), (6, .int (a6 + 1))] [] ly0 I L R0 0 0) (kk : P (F_X9_formOf_15_1 a0 a2 a3 a6 a4 a7)) : V (zM x_X9_formOf 2 0 0 t) 15 [(0, .long a0), (2, .int a2), (3, .int a3), (4, .long a4), (6, .int a6), (7, .int a7)] [] ly0 I L R0 0 0 :=
  V_fr0 (fun i x => (F_X9_formOf_21_2 a0 a2 a3 a6 i x)) a3 (fun i x => V (zM x_X9_formOf 2 0 0 t) 15 [(0, .long a0), (2, .int a2), (3, .int a3), (4, .long x), (6, .int a6), (7, .int i)] [] ly0 I L R0 0 0) (fun i x => P ((F_X9_formOf_82_1 a0 a2 a3 a6 x))) (c := a7) (s := a4) (fun i x kx kb => V_iload (tat ok_X9_formOf_0 (i := 9) (q := 17) rfl rfl) 5 rfl <|
    V_iload_n (tat ok_X9_formOf_0 (i := 10) (q := 18) rfl rfl) 2 rfl rfl <|
    V_icmp_ge (tat ok_X9_formOf_0 (i := 11) (q := 21) rfl rfl) rfl (fun c0 => V_pick [0, 1, 2, 3, 4] rfl (V_X9_formOf_82_1  hk (kx c0))) (fun c0 => V_X9_formOf_21_2 (P := (fun x => (fun i x => V (zM x_X9_formOf 2 0 0 t) 15 [(0, .long a0), (2, .int a2), (3, .int a3), (4, .long x), (6, .int a6), (7, .int i)] [] ly0 I L R0 0 0) (i + 1) x))  (fun _ e => e) (kb c0))) kk
def F_X9_formOf_12_1 (a0 : Int64) (a2 : Int32) (a3 : Int32) (a6 : Int32) (a4 : Int64) : Int64 :=
  (F_X9_formOf_15_1 a0 a2 a3 a6 a4 0)
theorem V_X9_formOf_12_1  {I : WI} {L : WL} {a0 : Int64} {a2 : Int32} {a3 : Int32} {a6 : Int32} {a4 : Int64} {P : Int64 → Prop} {t : Tg} (hk : ∀ x : Int64, P x → V (zM x_X9_formOf 2 0 0 t) 6 [(0, .long a0), (2, .int a2), (3, .int a3), (4, .long x), (6, .int (a6 + 1))] [] ly0 I L R0 0 0) (kk : P (F_X9_formOf_12_1 a0 a2 a3 a6 a4)) : V (zM x_X9_formOf 2 0 0 t) 12 [(0, .long a0), (2, .int a2), (3, .int a3), (4, .long a4), (6, .int a6)] [] ly0 I L R0 0 0 :=
  V_iconst (tat ok_X9_formOf_0 (i := 7) (q := 13) rfl rfl) ic_0 <|
    V_istore (lv' := [(7, .int 0), (0, .long a0), (2, .int a2), (3, .int a3), (4, .long a4), (6, .int a6)]) (tat ok_X9_formOf_0 (i := 8) (q := 15) rfl rfl) (Nat.le_of_ble_eq_true rfl) rfl <|
    V_pick [1, 2, 3, 4, 5, 0] rfl (V_X9_formOf_15_1 rfl hk (jx (P := P) kk rfl))
def F_X9_formOf_88 (a0 : Int64) (a2 : Int32) (a3 : Int32) (a4 : Int64) : Int64 :=
  a4
theorem V_X9_formOf_88  {I : WI} {L : WL} {a0 : Int64} {a2 : Int32} {a3 : Int32} {a4 : Int64} {P : Int64 → Prop} {t : Tg} (hr : ∀ v, P v → t = (some (.long v), ly0, I, L, R0)) (kk : P (F_X9_formOf_88 a0 a2 a3 a4)) : V (zM x_X9_formOf 2 0 0 t) 88 [(0, .long a0), (2, .int a2), (3, .int a3), (4, .long a4)] [] ly0 I L R0 0 0 :=
  V_lload (tat ok_X9_formOf_1 (i := 7) (q := 90) rfl rfl) 3 rfl <|
    V_lret (tat ok_X9_formOf_1 (i := 8) (q := 91) rfl rfl) rfl (hr a4 (jx (P := P) kk rfl)) ⟨(Nat.le_of_ble_eq_true rfl), (Nat.le_of_ble_eq_true rfl)⟩
def F_X9_formOf_6 (a0 : Int64) (a2 : Int32) (a3 : Int32) (a4 : Int64) (a6 : Int32) : Int64 :=
  (fun q : Int32 × Int64 => (F_X9_formOf_88 a0 a2 a3 (p2 q))) (fr0 (fun i x => (F_X9_formOf_12_1 a0 a2 a3 i x)) a2 (fu a6 a2) a6 a4)
theorem V_X9_formOf_6  {I : WI} {L : WL} {a0 : Int64} {a2 : Int32} {a3 : Int32} {a4 : Int64} {a6 : Int32} {P : Int64 → Prop} {t : Tg} (hb6 : bz a6 = a6) (hr : ∀ v, P v → t = (some (.long v), ly0, I, L, R0)) (kk : P (F_X9_formOf_6 a0 a2 a3 a4 a6)) : V (zM x_X9_formOf 2 0 0 t) 6 [(0, .long a0), (2, .int a2), (3, .int a3), (4, .long a4), (6, .int a6)] [] ly0 I L R0 0 0 :=
  V_fr0 (fun i x => (F_X9_formOf_12_1 a0 a2 a3 i x)) a2 (fun i x => V (zM x_X9_formOf 2 0 0 t) 6 [(0, .long a0), (2, .int a2), (3, .int a3), (4, .long x), (6, .int i)] [] ly0 I L R0 0 0) (fun i x => P ((F_X9_formOf_88 a0 a2 a3 x))) (c := a6) (s := a4) (fun i x kx kb => V_iload (tat ok_X9_formOf_0 (i := 4) (q := 8) rfl rfl) 4 rfl <|
    V_iload_n (tat ok_X9_formOf_0 (i := 5) (q := 9) rfl rfl) 1 rfl rfl <|
    V_icmp_ge (tat ok_X9_formOf_0 (i := 6) (q := 12) rfl rfl) rfl (fun c0 => V_pick [0, 1, 2, 3] rfl (V_X9_formOf_88  hr (kx c0))) (fun c0 => V_X9_formOf_12_1 (P := (fun x => (fun i x => V (zM x_X9_formOf 2 0 0 t) 6 [(0, .long a0), (2, .int a2), (3, .int a3), (4, .long x), (6, .int i)] [] ly0 I L R0 0 0) (i + 1) x))  (fun _ e => e) (kb c0))) kk
def F_X9_formOf (a0 : Int64) (a2 : Int32) (a3 : Int32) : Int64 :=
  (F_X9_formOf_6 a0 a2 a3 0 0)
theorem V_X9_formOf  {I : WI} {L : WL} {a0 : Int64} {a2 : Int32} {a3 : Int32}  {P : Int64 → Prop} {t : Tg} (hr : ∀ v, P v → t = (some (.long v), ly0, I, L, R0)) (kk : P (F_X9_formOf a0 a2 a3)) : V (zM x_X9_formOf 2 0 0 t) 0 [(0, .long a0), (2, .int a2), (3, .int a3)] [] ly0 I L R0 0 0 :=
  V_lconst (v := 0) (tat ok_X9_formOf_0 (i := 0) (q := 1) rfl rfl) rfl <|
    V_lstore (lv' := [(4, .long 0), (0, .long a0), (2, .int a2), (3, .int a3)]) (tat ok_X9_formOf_0 (i := 1) (q := 3) rfl rfl) (Nat.le_of_ble_eq_true rfl) rfl <|
    V_iconst (tat ok_X9_formOf_0 (i := 2) (q := 4) rfl rfl) ic_0 <|
    V_istore (lv' := [(6, .int 0), (4, .long 0), (0, .long a0), (2, .int a2), (3, .int a3)]) (tat ok_X9_formOf_0 (i := 3) (q := 6) rfl rfl) (Nat.le_of_ble_eq_true rfl) rfl <|
    V_pick [2, 3, 4, 1, 0] rfl (V_X9_formOf_6 rfl hr (jx (P := P) kk rfl))
theorem ct_X9_formOf  (I : WI) (L : WL) (a0 : Int64) (a2 : Int32) (a3 : Int32)  : Ct x_X9_formOf 2 [.long a0, .int a2, .int a3] ly0 I L R0 0 0 (some (.long (F_X9_formOf a0 a2 a3)), ly0, I, L, R0) :=
  Ct_of_V mo_X9_formOf.1 (Nat.le_of_ble_eq_true rfl) (V_X9_formOf (P := fun x => x = (F_X9_formOf a0 a2 a3))  (fun _ e => by rw [e]) rfl)
def F_X9_formNow (I : WI) (a1 : Int64) : Int64 :=
  (F_X9_formOf a1 (I 33 0) (I 33 1))
theorem V_X9_formNow  {I : WI} {L : WL} {a1 : Int64}  {P : Int64 → Prop} {t : Tg} (hr : ∀ v, P v → t = (some (.long v), ly0, I, L, R0)) (kk : P (F_X9_formNow I a1)) : V (zM x_X9_formNow 3 0 0 t) 0 [(0, .ref 33), (1, .long a1)] [] ly0 I L R0 0 0 :=
  V_lload_n (tat ok_X9_formNow_0 (i := 0) (q := 1) rfl rfl) 1 rfl rfl <|
    V_aload_n (tat ok_X9_formNow_0 (i := 1) (q := 2) rfl rfl) 0 rfl rfl <|
    V_getI (tat ok_X9_formNow_0 (i := 2) (q := 5) rfl rfl) fk_X9_74 rfl <|
    V_aload_n (tat ok_X9_formNow_0 (i := 3) (q := 6) rfl rfl) 0 rfl rfl <|
    V_getI (tat ok_X9_formNow_0 (i := 4) (q := 9) rfl rfl) fk_X9_77 rfl <|
    V_cs3 (ct_X9_formOf I L a1 (I 33 0) (I 33 1) ) mo_X9_formOf (tat ok_X9_formNow_0 (i := 5) (q := 12) rfl rfl) ml_X9_227 ⟨(Nat.le_of_ble_eq_true rfl), (Nat.le_of_ble_eq_true rfl)⟩ ⟨(Nat.le_of_ble_eq_true rfl), (Nat.le_of_ble_eq_true rfl)⟩ (Nat.le_of_ble_eq_true rfl) <|
    V_lret (tat ok_X9_formNow_0 (i := 6) (q := 13) rfl rfl) rfl (hr (F_X9_formOf a1 (I 33 0) (I 33 1)) (jx (P := P) kk rfl)) ⟨(Nat.le_of_ble_eq_true rfl), (Nat.le_of_ble_eq_true rfl)⟩
theorem ct_X9_formNow  (I : WI) (L : WL) (a1 : Int64)  : Ct x_X9_formNow 3 [.ref 33, .long a1] ly0 I L R0 0 0 (some (.long (F_X9_formNow I a1)), ly0, I, L, R0) :=
  Ct_of_V mo_X9_formNow.1 (Nat.le_of_ble_eq_true rfl) (V_X9_formNow (P := fun x => x = (F_X9_formNow I a1))  (fun _ e => by rw [e]) rfl)
def F_X9_form_41 (I : WI) (L : WL) (a1 : Int32) (s0 : Int64) : Int64 :=
  s0
theorem V_X9_form_41  {I : WI} {L : WL} {a1 : Int32} {s0 : Int64} {P : Int64 → Prop} {t : Tg} (hr : ∀ v, P v → t = (some (.long v), ly0, I, L, R0)) (kk : P (F_X9_form_41 I L a1 s0)) : V (zM x_X9_form 4 0 0 t) 41 [(0, .ref 33), (1, .int a1)] [.long s0] ly0 I L R0 0 0 :=
  V_lret (tat ok_X9_form_0 (i := 19) (q := 42) rfl rfl) rfl (hr s0 (jx (P := P) kk rfl)) ⟨(Nat.le_of_ble_eq_true rfl), (Nat.le_of_ble_eq_true rfl)⟩
def F_X9_form_38 (I : WI) (L : WL) (a1 : Int32) : Int64 :=
  (F_X9_form_41 I L a1 (-1))
theorem V_X9_form_38  {I : WI} {L : WL} {a1 : Int32}  {P : Int64 → Prop} {t : Tg} (hr : ∀ v, P v → t = (some (.long v), ly0, I, L, R0)) (kk : P (F_X9_form_38 I L a1)) : V (zM x_X9_form 4 0 0 t) 38 [(0, .ref 33), (1, .int a1)] [] ly0 I L R0 0 0 :=
  V_ldc2 (tat ok_X9_form_0 (i := 18) (q := 41) rfl rfl) (gw_in kl_X9_204 rfl) <|
    V_X9_form_41  hr (jx (P := P) kk rfl)
def F_X9_form (I : WI) (L : WL) (a1 : Int32) : Int64 :=
  (if a1 = 0 then (F_X9_form_41 I L a1 (F_X9_formNow I (L 33 2))) else (if a1 = 1 then (if (bz (I 33 4)) = 0 then (F_X9_form_38 I L a1) else (F_X9_form_41 I L a1 (F_X9_formNow I (L 33 3)))) else (F_X9_form_38 I L a1)))
theorem V_X9_form  {I : WI} {L : WL} {a1 : Int32}  {P : Int64 → Prop} {t : Tg} (hr : ∀ v, P v → t = (some (.long v), ly0, I, L, R0)) (kk : P (F_X9_form I L a1)) : V (zM x_X9_form 4 0 0 t) 0 [(0, .ref 33), (1, .int a1)] [] ly0 I L R0 0 0 :=
  V_iload_n (tat ok_X9_form_0 (i := 0) (q := 1) rfl rfl) 1 rfl rfl <|
    V_if_ne (tat ok_X9_form_0 (i := 1) (q := 4) rfl rfl) rfl (fun c1 => V_iload_n (tat ok_X9_form_0 (i := 7) (q := 16) rfl rfl) 1 rfl rfl <|
    V_iconst (tat ok_X9_form_0 (i := 8) (q := 17) rfl rfl) ic_1 <|
    V_icmp_ne (tat ok_X9_form_0 (i := 9) (q := 20) rfl rfl) rfl (fun c2 => V_X9_form_38  hr (jx (P := P) kk (Eq.trans (if_neg c1) (if_neg c2)))) (fun c2 => V_aload_n (tat ok_X9_form_0 (i := 10) (q := 21) rfl rfl) 0 rfl rfl <|
    V_getZ (tat ok_X9_form_0 (i := 11) (q := 24) rfl rfl) fk_X9_86 rfl <|
    V_if_eq (tat ok_X9_form_0 (i := 12) (q := 27) rfl rfl) rfl (fun c3 => V_X9_form_38  hr (jx (P := P) kk (Eq.trans (if_neg c1) (Eq.trans (if_pos c2) (if_pos c3))))) (fun c3 => V_aload_n (tat ok_X9_form_0 (i := 13) (q := 28) rfl rfl) 0 rfl rfl <|
    V_aload_n (tat ok_X9_form_0 (i := 14) (q := 29) rfl rfl) 0 rfl rfl <|
    V_getL (tat ok_X9_form_0 (i := 15) (q := 32) rfl rfl) fk_X9_83 rfl <|
    V_cv1 (ct_X9_formNow I L (L 33 3) ) mo_X9_formNow (tat ok_X9_form_0 (i := 16) (q := 35) rfl rfl) ml_X9_231 rfl ⟨by decide, _, rfl, rfl⟩ ⟨(Nat.le_of_ble_eq_true rfl), (Nat.le_of_ble_eq_true rfl)⟩ ⟨(Nat.le_of_ble_eq_true rfl), (Nat.le_of_ble_eq_true rfl)⟩ (Nat.le_of_ble_eq_true rfl) <|
    V_goto (tat ok_X9_form_0 (i := 17) (q := 38) rfl rfl) rfl <|
    V_X9_form_41  hr (jx (P := P) kk (Eq.trans (if_neg c1) (Eq.trans (if_pos c2) (if_neg c3))))))) (fun c1 => V_aload_n (tat ok_X9_form_0 (i := 2) (q := 5) rfl rfl) 0 rfl rfl <|
    V_aload_n (tat ok_X9_form_0 (i := 3) (q := 6) rfl rfl) 0 rfl rfl <|
    V_getL (tat ok_X9_form_0 (i := 4) (q := 9) rfl rfl) fk_X9_80 rfl <|
    V_cv1 (ct_X9_formNow I L (L 33 2) ) mo_X9_formNow (tat ok_X9_form_0 (i := 5) (q := 12) rfl rfl) ml_X9_231 rfl ⟨by decide, _, rfl, rfl⟩ ⟨(Nat.le_of_ble_eq_true rfl), (Nat.le_of_ble_eq_true rfl)⟩ ⟨(Nat.le_of_ble_eq_true rfl), (Nat.le_of_ble_eq_true rfl)⟩ (Nat.le_of_ble_eq_true rfl) <|
    V_goto (tat ok_X9_form_0 (i := 6) (q := 15) rfl rfl) rfl <|
    V_X9_form_41  hr (jx (P := P) kk (if_pos c1)))
theorem ct_X9_form  (I : WI) (L : WL) (a1 : Int32)  : Ct x_X9_form 4 [.ref 33, .int a1] ly0 I L R0 0 0 (some (.long (F_X9_form I L a1)), ly0, I, L, R0) :=
  Ct_of_V mo_X9_form.1 (Nat.le_of_ble_eq_true rfl) (V_X9_form (P := fun x => x = (F_X9_form I L a1))  (fun _ e => by rw [e]) rfl)
def F_X9_forms (I : WI) : Int64 :=
  (lsh 1 (((I 33 0) - 1) * ((I 33 1) - 1)))
theorem V_X9_forms  {I : WI} {L : WL}   {P : Int64 → Prop} {t : Tg} (hr : ∀ v, P v → t = (some (.long v), ly0, I, L, R0)) (kk : P (F_X9_forms I)) : V (zM x_X9_forms 1 0 0 t) 0 [(0, .ref 33)] [] ly0 I L R0 0 0 :=
  V_lconst (v := 1) (tat ok_X9_forms_0 (i := 0) (q := 1) rfl rfl) rfl <|
    V_aload_n (tat ok_X9_forms_0 (i := 1) (q := 2) rfl rfl) 0 rfl rfl <|
    V_getI (tat ok_X9_forms_0 (i := 2) (q := 5) rfl rfl) fk_X9_74 rfl <|
    V_iconst (tat ok_X9_forms_0 (i := 3) (q := 6) rfl rfl) ic_1 <|
    V_isub (tat ok_X9_forms_0 (i := 4) (q := 7) rfl rfl) <|
    V_aload_n (tat ok_X9_forms_0 (i := 5) (q := 8) rfl rfl) 0 rfl rfl <|
    V_getI (tat ok_X9_forms_0 (i := 6) (q := 11) rfl rfl) fk_X9_77 rfl <|
    V_iconst (tat ok_X9_forms_0 (i := 7) (q := 12) rfl rfl) ic_1 <|
    V_isub (tat ok_X9_forms_0 (i := 8) (q := 13) rfl rfl) <|
    V_imul (tat ok_X9_forms_0 (i := 9) (q := 14) rfl rfl) <|
    V_lshl (tat ok_X9_forms_0 (i := 10) (q := 15) rfl rfl) <|
    V_lret (tat ok_X9_forms_0 (i := 11) (q := 16) rfl rfl) rfl (hr (lsh 1 (((I 33 0) - 1) * ((I 33 1) - 1))) (jx (P := P) kk rfl)) ⟨(Nat.le_of_ble_eq_true rfl), (Nat.le_of_ble_eq_true rfl)⟩
theorem ct_X9_forms  (I : WI) (L : WL)  : Ct x_X9_forms 1 [.ref 33] ly0 I L R0 0 0 (some (.long (F_X9_forms I)), ly0, I, L, R0) :=
  Ct_of_V mo_X9_forms.1 (Nat.le_of_ble_eq_true rfl) (V_X9_forms (P := fun x => x = (F_X9_forms I))  (fun _ e => by rw [e]) rfl)
def F_X9_isImage (a0 : Int32) : Option Int32 :=
  (if bz (F_X9_in (Int32.toInt64 a0) 0 1) = (F_X9_in (Int32.toInt64 a0) 0 1) then some (F_X9_in (Int32.toInt64 a0) 0 1) else none)
theorem V_X9_isImage  {I : WI} {L : WL} {a0 : Int32}  {P : Int32 → Prop} {t : Tg} (hr : ∀ v, P v → t = (some (.int v), ly0, I, L, R0)) (kk : oP P (F_X9_isImage a0)) : V (zM x_X9_isImage 2 0 0 t) 0 [(0, .int a0)] [] ly0 I L R0 0 0 :=
  V_iload_n (tat ok_X9_isImage_0 (i := 0) (q := 1) rfl rfl) 0 rfl rfl <|
    V_i2l (tat ok_X9_isImage_0 (i := 1) (q := 2) rfl rfl) <|
    V_lconst (v := 0) (tat ok_X9_isImage_0 (i := 2) (q := 3) rfl rfl) rfl <|
    V_lconst (v := 1) (tat ok_X9_isImage_0 (i := 3) (q := 4) rfl rfl) rfl <|
    V_cs3 (ct_X9_in I L (Int32.toInt64 a0) 0 1 ) mo_X9_in (tat ok_X9_isImage_0 (i := 4) (q := 7) rfl rfl) ml_X9_97 ⟨(Nat.le_of_ble_eq_true rfl), (Nat.le_of_ble_eq_true rfl)⟩ ⟨(Nat.le_of_ble_eq_true rfl), (Nat.le_of_ble_eq_true rfl)⟩ (Nat.le_of_ble_eq_true rfl) <|
    (if c1 : bz (F_X9_in (Int32.toInt64 a0) 0 1) = (F_X9_in (Int32.toInt64 a0) 0 1) then V_iret (tat ok_X9_isImage_0 (i := 5) (q := 8) rfl rfl) _ rfl (bz_nf c1).1 (hr (F_X9_in (Int32.toInt64 a0) 0 1) (jx (P := oP P) kk (if_pos c1))) ⟨(Nat.le_of_ble_eq_true rfl), (Nat.le_of_ble_eq_true rfl)⟩ else ((jx (P := oP P) kk (if_neg c1))).elim)
theorem ct_X9_isImage  (I : WI) (L : WL) (a0 : Int32)  {v : Int32} (h : (F_X9_isImage a0) = some v) : Ct x_X9_isImage 2 [.int a0] ly0 I L R0 0 0 (some (.int v), ly0, I, L, R0) :=
  Ct_of_V mo_X9_isImage.1 (Nat.le_of_ble_eq_true rfl) (V_X9_isImage (P := fun x => x = v)  (fun _ e => by rw [e]) (by rw [h]; exact rfl))
def F_X9_isKept_14 (I : WI) (a1 : Int32) (s0 : Int32) : Option Int32 :=
  some s0
theorem V_X9_isKept_14  {I : WI} {L : WL} {a1 : Int32} {s0 : Int32} {P : Int32 → Prop} {t : Tg} (hs0 : bz s0 = s0) (hr : ∀ v, P v → t = (some (.int v), ly0, I, L, R0)) (kk : oP P (F_X9_isKept_14 I a1 s0)) : V (zM x_X9_isKept 1 0 0 t) 14 [(0, .ref 33), (1, .int a1)] [.int s0] ly0 I L R0 0 0 :=
  V_iret (tat ok_X9_isKept_0 (i := 8) (q := 15) rfl rfl) _ rfl (bz_nf hs0).1 (hr s0 (jx (P := oP P) kk rfl)) ⟨(Nat.le_of_ble_eq_true rfl), (Nat.le_of_ble_eq_true rfl)⟩
def F_X9_isKept (I : WI) (a1 : Int32) : Option Int32 :=
  (if a1 < 0 ∨ 2 ≤ Int32.toNatClampNeg a1 then none else (if (I 36 (Int32.toNatClampNeg a1)) ≤ 0 then (F_X9_isKept_14 I a1 0) else (F_X9_isKept_14 I a1 1)))
theorem V_X9_isKept  {I : WI} {L : WL} {a1 : Int32}  {P : Int32 → Prop} {t : Tg} (hr : ∀ v, P v → t = (some (.int v), ly0, I, L, R0)) (kk : oP P (F_X9_isKept I a1)) : V (zM x_X9_isKept 1 0 0 t) 0 [(0, .ref 33), (1, .int a1)] [] ly0 I L R0 0 0 :=
  V_aload_n (tat ok_X9_isKept_0 (i := 0) (q := 1) rfl rfl) 0 rfl rfl <|
    V_getR (tat ok_X9_isKept_0 (i := 1) (q := 4) rfl rfl) fk_X9_17 rfl rfl <|
    V_iload_n (tat ok_X9_isKept_0 (i := 2) (q := 5) rfl rfl) 1 rfl rfl <|
    (if c1 : a1 < 0 ∨ 2 ≤ Int32.toNatClampNeg a1 then ((jx (P := oP P) kk (if_pos c1))).elim else V_iald (tat ok_X9_isKept_0 (i := 3) (q := 6) rfl rfl) rfl c1 <|
    V_if_le (tat ok_X9_isKept_0 (i := 4) (q := 9) rfl rfl) rfl (fun c2 => V_iconst (tat ok_X9_isKept_0 (i := 7) (q := 14) rfl rfl) ic_0 <|
    V_X9_isKept_14 rfl hr (jx (P := oP P) kk (Eq.trans (if_neg c1) (if_pos c2)))) (fun c2 => V_iconst (tat ok_X9_isKept_0 (i := 5) (q := 10) rfl rfl) ic_1 <|
    V_goto (tat ok_X9_isKept_0 (i := 6) (q := 13) rfl rfl) rfl <|
    V_X9_isKept_14 rfl hr (jx (P := oP P) kk (Eq.trans (if_neg c1) (if_neg c2)))))
theorem ct_X9_isKept  (I : WI) (L : WL) (a1 : Int32)  {v : Int32} (h : (F_X9_isKept I a1) = some v) : Ct x_X9_isKept 1 [.ref 33, .int a1] ly0 I L R0 0 0 (some (.int v), ly0, I, L, R0) :=
  Ct_of_V mo_X9_isKept.1 (Nat.le_of_ble_eq_true rfl) (V_X9_isKept (P := fun x => x = v)  (fun _ e => by rw [e]) (by rw [h]; exact rfl))
def F_X9_isOfSize_31 (I : WI) (a1 : Int32) (s0 : Int32) : Option Int32 :=
  some s0
theorem V_X9_isOfSize_31  {I : WI} {L : WL} {a1 : Int32} {s0 : Int32} {P : Int32 → Prop} {t : Tg} (hs0 : bz s0 = s0) (hr : ∀ v, P v → t = (some (.int v), ly0, I, L, R0)) (kk : oP P (F_X9_isOfSize_31 I a1 s0)) : V (zM x_X9_isOfSize 1 0 0 t) 31 [(0, .ref 33), (1, .int a1)] [.int s0] ly0 I L R0 0 0 :=
  V_iret (tat ok_X9_isOfSize_0 (i := 17) (q := 32) rfl rfl) _ rfl (bz_nf hs0).1 (hr s0 (jx (P := oP P) kk rfl)) ⟨(Nat.le_of_ble_eq_true rfl), (Nat.le_of_ble_eq_true rfl)⟩
def F_X9_isOfSize_30 (I : WI) (a1 : Int32) : Option Int32 :=
  (F_X9_isOfSize_31 I a1 0)
theorem V_X9_isOfSize_30  {I : WI} {L : WL} {a1 : Int32}  {P : Int32 → Prop} {t : Tg} (hr : ∀ v, P v → t = (some (.int v), ly0, I, L, R0)) (kk : oP P (F_X9_isOfSize_30 I a1)) : V (zM x_X9_isOfSize 1 0 0 t) 30 [(0, .ref 33), (1, .int a1)] [] ly0 I L R0 0 0 :=
  V_iconst (tat ok_X9_isOfSize_0 (i := 16) (q := 31) rfl rfl) ic_0 <|
    V_X9_isOfSize_31 rfl hr (jx (P := oP P) kk rfl)
def F_X9_isOfSize (I : WI) (a1 : Int32) : Option Int32 :=
  (if a1 < 0 ∨ 2 ≤ Int32.toNatClampNeg a1 then none else (if (I 36 (Int32.toNatClampNeg a1)) = (I 33 0) then (if a1 < 0 ∨ 2 ≤ Int32.toNatClampNeg a1 then none else (if (I 37 (Int32.toNatClampNeg a1)) = (I 33 1) then (F_X9_isOfSize_31 I a1 1) else (F_X9_isOfSize_30 I a1))) else (F_X9_isOfSize_30 I a1)))
theorem V_X9_isOfSize  {I : WI} {L : WL} {a1 : Int32}  {P : Int32 → Prop} {t : Tg} (hr : ∀ v, P v → t = (some (.int v), ly0, I, L, R0)) (kk : oP P (F_X9_isOfSize I a1)) : V (zM x_X9_isOfSize 1 0 0 t) 0 [(0, .ref 33), (1, .int a1)] [] ly0 I L R0 0 0 :=
  V_aload_n (tat ok_X9_isOfSize_0 (i := 0) (q := 1) rfl rfl) 0 rfl rfl <|
    V_getR (tat ok_X9_isOfSize_0 (i := 1) (q := 4) rfl rfl) fk_X9_17 rfl rfl <|
    V_iload_n (tat ok_X9_isOfSize_0 (i := 2) (q := 5) rfl rfl) 1 rfl rfl <|
    (if c1 : a1 < 0 ∨ 2 ≤ Int32.toNatClampNeg a1 then ((jx (P := oP P) kk (if_pos c1))).elim else V_iald (tat ok_X9_isOfSize_0 (i := 3) (q := 6) rfl rfl) rfl c1 <|
    V_aload_n (tat ok_X9_isOfSize_0 (i := 4) (q := 7) rfl rfl) 0 rfl rfl <|
    V_getI (tat ok_X9_isOfSize_0 (i := 5) (q := 10) rfl rfl) fk_X9_74 rfl <|
    V_icmp_ne (tat ok_X9_isOfSize_0 (i := 6) (q := 13) rfl rfl) rfl (fun c2 => V_X9_isOfSize_30  hr (jx (P := oP P) kk (Eq.trans (if_neg c1) (if_neg c2)))) (fun c2 => V_aload_n (tat ok_X9_isOfSize_0 (i := 7) (q := 14) rfl rfl) 0 rfl rfl <|
    V_getR (tat ok_X9_isOfSize_0 (i := 8) (q := 17) rfl rfl) fk_X9_20 rfl rfl <|
    V_iload_n (tat ok_X9_isOfSize_0 (i := 9) (q := 18) rfl rfl) 1 rfl rfl <|
    (if c3 : a1 < 0 ∨ 2 ≤ Int32.toNatClampNeg a1 then ((jx (P := oP P) kk (Eq.trans (if_neg c1) (Eq.trans (if_pos c2) (if_pos c3))))).elim else V_iald (tat ok_X9_isOfSize_0 (i := 10) (q := 19) rfl rfl) rfl c3 <|
    V_aload_n (tat ok_X9_isOfSize_0 (i := 11) (q := 20) rfl rfl) 0 rfl rfl <|
    V_getI (tat ok_X9_isOfSize_0 (i := 12) (q := 23) rfl rfl) fk_X9_77 rfl <|
    V_icmp_ne (tat ok_X9_isOfSize_0 (i := 13) (q := 26) rfl rfl) rfl (fun c4 => V_X9_isOfSize_30  hr (jx (P := oP P) kk (Eq.trans (if_neg c1) (Eq.trans (if_pos c2) (Eq.trans (if_neg c3) (if_neg c4)))))) (fun c4 => V_iconst (tat ok_X9_isOfSize_0 (i := 14) (q := 27) rfl rfl) ic_1 <|
    V_goto (tat ok_X9_isOfSize_0 (i := 15) (q := 30) rfl rfl) rfl <|
    V_X9_isOfSize_31 rfl hr (jx (P := oP P) kk (Eq.trans (if_neg c1) (Eq.trans (if_pos c2) (Eq.trans (if_neg c3) (if_pos c4)))))))))
theorem ct_X9_isOfSize  (I : WI) (L : WL) (a1 : Int32)  {v : Int32} (h : (F_X9_isOfSize I a1) = some v) : Ct x_X9_isOfSize 1 [.ref 33, .int a1] ly0 I L R0 0 0 (some (.int v), ly0, I, L, R0) :=
  Ct_of_V mo_X9_isOfSize.1 (Nat.le_of_ble_eq_true rfl) (V_X9_isOfSize (P := fun x => x = v)  (fun _ e => by rw [e]) (by rw [h]; exact rfl))
def F_X9_alike_53 (I : WI) (L : WL) (a1 : Int32) (s0 : Int32) : Option Int32 :=
  some (F_X9_flag s0)
theorem V_X9_alike_53  {I : WI} {L : WL} {a1 : Int32} {s0 : Int32} {P : Int32 → Prop} {t : Tg} (hs0 : bz s0 = s0) (hr : ∀ v, P v → t = (some (.int v), ly0, I, L, R0)) (kk : oP P (F_X9_alike_53 I L a1 s0)) : V (zM x_X9_alike 4 0 0 t) 53 [(0, .ref 33), (1, .int a1)] [.int s0] ly0 I L R0 0 0 :=
  V_cs1 (ct_X9_flag I L s0 ) mo_X9_flag (tat ok_X9_alike_0 (i := 30) (q := 56) rfl rfl) ml_X9_200 ⟨(Nat.le_of_ble_eq_true rfl), (Nat.le_of_ble_eq_true rfl)⟩ ⟨(Nat.le_of_ble_eq_true rfl), (Nat.le_of_ble_eq_true rfl)⟩ (Nat.le_of_ble_eq_true rfl) <|
    V_iret (tat ok_X9_alike_0 (i := 31) (q := 57) rfl rfl) _ rfl (nar_int _) (hr (F_X9_flag s0) (jx (P := oP P) kk rfl)) ⟨(Nat.le_of_ble_eq_true rfl), (Nat.le_of_ble_eq_true rfl)⟩
def F_X9_alike_52 (I : WI) (L : WL) (a1 : Int32) : Option Int32 :=
  (F_X9_alike_53 I L a1 0)
theorem V_X9_alike_52  {I : WI} {L : WL} {a1 : Int32}  {P : Int32 → Prop} {t : Tg} (hr : ∀ v, P v → t = (some (.int v), ly0, I, L, R0)) (kk : oP P (F_X9_alike_52 I L a1)) : V (zM x_X9_alike 4 0 0 t) 52 [(0, .ref 33), (1, .int a1)] [] ly0 I L R0 0 0 :=
  V_iconst (tat ok_X9_alike_0 (i := 29) (q := 53) rfl rfl) ic_0 <|
    V_X9_alike_53 rfl hr (jx (P := oP P) kk rfl)
def F_X9_alike (I : WI) (L : WL) (a1 : Int32) : Option Int32 :=
  (Option.bind (F_X9_isImage a1) (fun v1 => (if v1 = 0 then some (-1) else (Option.bind (F_X9_isKept I a1) (fun v3 => (if v3 = 0 then some (-2) else (Option.bind (F_X9_isOfSize I a1) (fun v5 => (if v5 = 0 then (F_X9_alike_52 I L a1) else (if a1 < 0 ∨ 2 ≤ Int32.toNatClampNeg a1 then none else (if (lg_cmp (F_X9_formNow I ((L 33 2) ^^^ (L 35 (Int32.toNatClampNeg a1)))) 0) = 0 then (F_X9_alike_53 I L a1 1) else (F_X9_alike_52 I L a1))))))))))))
theorem V_X9_alike  {I : WI} {L : WL} {a1 : Int32}  {P : Int32 → Prop} {t : Tg} (hr : ∀ v, P v → t = (some (.int v), ly0, I, L, R0)) (kk : oP P (F_X9_alike I L a1)) : V (zM x_X9_alike 4 0 0 t) 0 [(0, .ref 33), (1, .int a1)] [] ly0 I L R0 0 0 :=
  V_iload_n (tat ok_X9_alike_0 (i := 0) (q := 1) rfl rfl) 1 rfl rfl <|
    oP_case (jx (P := oP P) kk rfl) (fun v1 e1 _ => V_cs1 (ct_X9_isImage I L a1  e1) mo_X9_isImage (tat ok_X9_alike_0 (i := 1) (q := 4) rfl rfl) ml_X9_235 ⟨(Nat.le_of_ble_eq_true rfl), (Nat.le_of_ble_eq_true rfl)⟩ ⟨(Nat.le_of_ble_eq_true rfl), (Nat.le_of_ble_eq_true rfl)⟩ (Nat.le_of_ble_eq_true rfl) <|
    V_if_ne (tat ok_X9_alike_0 (i := 2) (q := 7) rfl rfl) rfl (fun c2 => V_aload_n (tat ok_X9_alike_0 (i := 5) (q := 10) rfl rfl) 0 rfl rfl <|
    V_iload_n (tat ok_X9_alike_0 (i := 6) (q := 11) rfl rfl) 1 rfl rfl <|
    oP_case (jx (P := oP P) kk (Eq.trans (ob e1) (if_neg c2))) (fun v3 e3 _ => V_cv1 (ct_X9_isKept I L a1  e3) mo_X9_isKept (tat ok_X9_alike_0 (i := 7) (q := 14) rfl rfl) ml_X9_239 rfl ⟨by decide, _, rfl, rfl⟩ ⟨(Nat.le_of_ble_eq_true rfl), (Nat.le_of_ble_eq_true rfl)⟩ ⟨(Nat.le_of_ble_eq_true rfl), (Nat.le_of_ble_eq_true rfl)⟩ (Nat.le_of_ble_eq_true rfl) <|
    V_if_ne (tat ok_X9_alike_0 (i := 8) (q := 17) rfl rfl) rfl (fun c4 => V_aload_n (tat ok_X9_alike_0 (i := 11) (q := 21) rfl rfl) 0 rfl rfl <|
    V_iload_n (tat ok_X9_alike_0 (i := 12) (q := 22) rfl rfl) 1 rfl rfl <|
    oP_case (jx (P := oP P) kk (Eq.trans (ob e1) (Eq.trans (if_neg c2) (Eq.trans (ob e3) (if_neg c4))))) (fun v5 e5 _ => V_cv1 (ct_X9_isOfSize I L a1  e5) mo_X9_isOfSize (tat ok_X9_alike_0 (i := 13) (q := 25) rfl rfl) ml_X9_242 rfl ⟨by decide, _, rfl, rfl⟩ ⟨(Nat.le_of_ble_eq_true rfl), (Nat.le_of_ble_eq_true rfl)⟩ ⟨(Nat.le_of_ble_eq_true rfl), (Nat.le_of_ble_eq_true rfl)⟩ (Nat.le_of_ble_eq_true rfl) <|
    V_if_eq (tat ok_X9_alike_0 (i := 14) (q := 28) rfl rfl) rfl (fun c6 => V_X9_alike_52  hr (jx (P := oP P) kk (Eq.trans (ob e1) (Eq.trans (if_neg c2) (Eq.trans (ob e3) (Eq.trans (if_neg c4) (Eq.trans (ob e5) (if_pos c6)))))))) (fun c6 => V_aload_n (tat ok_X9_alike_0 (i := 15) (q := 29) rfl rfl) 0 rfl rfl <|
    V_aload_n (tat ok_X9_alike_0 (i := 16) (q := 30) rfl rfl) 0 rfl rfl <|
    V_getL (tat ok_X9_alike_0 (i := 17) (q := 33) rfl rfl) fk_X9_80 rfl <|
    V_aload_n (tat ok_X9_alike_0 (i := 18) (q := 34) rfl rfl) 0 rfl rfl <|
    V_getR (tat ok_X9_alike_0 (i := 19) (q := 37) rfl rfl) fk_X9_13 rfl rfl <|
    V_iload_n (tat ok_X9_alike_0 (i := 20) (q := 38) rfl rfl) 1 rfl rfl <|
    (if c7 : a1 < 0 ∨ 2 ≤ Int32.toNatClampNeg a1 then ((jx (P := oP P) kk (Eq.trans (ob e1) (Eq.trans (if_neg c2) (Eq.trans (ob e3) (Eq.trans (if_neg c4) (Eq.trans (ob e5) (Eq.trans (if_neg c6) (if_pos c7))))))))).elim else V_lald (tat ok_X9_alike_0 (i := 21) (q := 39) rfl rfl) rfl c7 <|
    V_lxor (tat ok_X9_alike_0 (i := 22) (q := 40) rfl rfl) <|
    V_cv1 (ct_X9_formNow I L ((L 33 2) ^^^ (L 35 (Int32.toNatClampNeg a1))) ) mo_X9_formNow (tat ok_X9_alike_0 (i := 23) (q := 43) rfl rfl) ml_X9_231 rfl ⟨by decide, _, rfl, rfl⟩ ⟨(Nat.le_of_ble_eq_true rfl), (Nat.le_of_ble_eq_true rfl)⟩ ⟨(Nat.le_of_ble_eq_true rfl), (Nat.le_of_ble_eq_true rfl)⟩ (Nat.le_of_ble_eq_true rfl) <|
    V_lconst (v := 0) (tat ok_X9_alike_0 (i := 24) (q := 44) rfl rfl) rfl <|
    V_lcmp (tat ok_X9_alike_0 (i := 25) (q := 45) rfl rfl) <|
    V_if_ne (tat ok_X9_alike_0 (i := 26) (q := 48) rfl rfl) rfl (fun c8 => V_X9_alike_52  hr (jx (P := oP P) kk (Eq.trans (ob e1) (Eq.trans (if_neg c2) (Eq.trans (ob e3) (Eq.trans (if_neg c4) (Eq.trans (ob e5) (Eq.trans (if_neg c6) (Eq.trans (if_neg c7) (if_neg c8)))))))))) (fun c8 => V_iconst (tat ok_X9_alike_0 (i := 27) (q := 49) rfl rfl) ic_1 <|
    V_goto (tat ok_X9_alike_0 (i := 28) (q := 52) rfl rfl) rfl <|
    V_X9_alike_53 rfl hr (jx (P := oP P) kk (Eq.trans (ob e1) (Eq.trans (if_neg c2) (Eq.trans (ob e3) (Eq.trans (if_neg c4) (Eq.trans (ob e5) (Eq.trans (if_neg c6) (Eq.trans (if_neg c7) (if_pos c8)))))))))))))) (fun c4 => V_bipush (tat ok_X9_alike_0 (i := 9) (q := 19) rfl rfl) bp_m2 <|
    V_iret (tat ok_X9_alike_0 (i := 10) (q := 20) rfl rfl) _ rfl (nar_int _) (hr (-2) (jx (P := oP P) kk (Eq.trans (ob e1) (Eq.trans (if_neg c2) (Eq.trans (ob e3) (if_pos c4)))))) ⟨(Nat.le_of_ble_eq_true rfl), (Nat.le_of_ble_eq_true rfl)⟩))) (fun c2 => V_iconst (tat ok_X9_alike_0 (i := 3) (q := 8) rfl rfl) ic_m1 <|
    V_iret (tat ok_X9_alike_0 (i := 4) (q := 9) rfl rfl) _ rfl (nar_int _) (hr (-1) (jx (P := oP P) kk (Eq.trans (ob e1) (if_pos c2)))) ⟨(Nat.le_of_ble_eq_true rfl), (Nat.le_of_ble_eq_true rfl)⟩))
theorem ct_X9_alike  (I : WI) (L : WL) (a1 : Int32)  {v : Int32} (h : (F_X9_alike I L a1) = some v) : Ct x_X9_alike 4 [.ref 33, .int a1] ly0 I L R0 0 0 (some (.int v), ly0, I, L, R0) :=
  Ct_of_V mo_X9_alike.1 (Nat.le_of_ble_eq_true rfl) (V_X9_alike (P := fun x => x = v)  (fun _ e => by rw [e]) (by rw [h]; exact rfl))
def F_X9_findPlan_29_1 (I : WI) (a1 : Int64) (a3 : Int32) (a5 : Int32) (a4 : Int32) : Int32 :=
  (a4 ||| ((F_X9_isDark a1 0 a5) <<< (a5 &&& 31)))
theorem V_X9_findPlan_29_1  {I : WI} {L : WL} {a1 : Int64} {a3 : Int32} {a5 : Int32} {a4 : Int32} {P : Int32 → Prop} {t : Tg} (hb3 : bz a3 = a3) (hk : ∀ x : Int32, P x → V (zM x_X9_findPlan 4 0 0 t) 20 [(0, .ref 33), (1, .long a1), (3, .int a3), (4, .int x), (5, .int (a5 + 1))] [] ly0 I L R0 0 0) (kk : P (F_X9_findPlan_29_1 I a1 a3 a5 a4)) : V (zM x_X9_findPlan 4 0 0 t) 29 [(0, .ref 33), (1, .long a1), (3, .int a3), (4, .int a4), (5, .int a5)] [] ly0 I L R0 0 0 :=
  V_iload (tat ok_X9_findPlan_0 (i := 18) (q := 31) rfl rfl) 3 rfl <|
    V_lload_n (tat ok_X9_findPlan_0 (i := 19) (q := 32) rfl rfl) 1 rfl rfl <|
    V_iconst (tat ok_X9_findPlan_0 (i := 20) (q := 33) rfl rfl) ic_0 <|
    V_iload (tat ok_X9_findPlan_0 (i := 21) (q := 35) rfl rfl) 4 rfl <|
    V_cs3 (ct_X9_isDark I L a1 0 a5 ) mo_X9_isDark (tat ok_X9_findPlan_0 (i := 22) (q := 38) rfl rfl) ml_X9_210 ⟨(Nat.le_of_ble_eq_true rfl), (Nat.le_of_ble_eq_true rfl)⟩ ⟨(Nat.le_of_ble_eq_true rfl), (Nat.le_of_ble_eq_true rfl)⟩ (Nat.le_of_ble_eq_true rfl) <|
    V_iload (tat ok_X9_findPlan_0 (i := 23) (q := 40) rfl rfl) 4 rfl <|
    V_ishl (tat ok_X9_findPlan_0 (i := 24) (q := 41) rfl rfl) <|
    V_ior (tat ok_X9_findPlan_0 (i := 25) (q := 42) rfl rfl) <|
    V_istore (lv' := [(4, .int (a4 ||| ((F_X9_isDark a1 0 a5) <<< (a5 &&& 31)))), (0, .ref 33), (1, .long a1), (3, .int a3), (5, .int a5)]) (tat ok_X9_findPlan_0 (i := 26) (q := 44) rfl rfl) (Nat.le_of_ble_eq_true rfl) rfl <|
    V_iinc (v := (a5 + 1)) (lv' := [(5, .int (a5 + 1)), (4, .int (a4 ||| ((F_X9_isDark a1 0 a5) <<< (a5 &&& 31)))), (0, .ref 33), (1, .long a1), (3, .int a3)]) (tat ok_X9_findPlan_0 (i := 27) (q := 47) rfl rfl) 4 rfl (ia ic_1) (Nat.le_of_ble_eq_true rfl) rfl <|
    V_goto (tat ok_X9_findPlan_0 (i := 28) (q := 50) rfl rfl) rfl <|
    V_pick [2, 3, 4, 1, 0] rfl (hk (a4 ||| ((F_X9_isDark a1 0 a5) <<< (a5 &&& 31))) (jx (P := P) kk rfl))
def F_X9_findPlan_62_2 (I : WI) (a1 : Int64) (a4 : Int32) (a5 : Int32) (a3 : Int32) : Int32 :=
  (a3 ||| (((F_X9_isDark a1 a5 0) ^^^ (F_X9_isDark a1 0 0)) <<< (a5 &&& 31)))
theorem V_X9_findPlan_62_2  {I : WI} {L : WL} {a1 : Int64} {a4 : Int32} {a5 : Int32} {a3 : Int32} {P : Int32 → Prop} {t : Tg} (hk : ∀ x : Int32, P x → V (zM x_X9_findPlan 4 0 0 t) 53 [(0, .ref 33), (1, .long a1), (3, .int x), (4, .int a4), (5, .int (a5 + 1))] [] ly0 I L R0 0 0) (kk : P (F_X9_findPlan_62_2 I a1 a4 a5 a3)) : V (zM x_X9_findPlan 4 0 0 t) 62 [(0, .ref 33), (1, .long a1), (3, .int a3), (4, .int a4), (5, .int a5)] [] ly0 I L R0 0 0 :=
  V_iload_n (tat ok_X9_findPlan_0 (i := 35) (q := 63) rfl rfl) 2 rfl rfl <|
    V_lload_n (tat ok_X9_findPlan_0 (i := 36) (q := 64) rfl rfl) 1 rfl rfl <|
    V_iload (tat ok_X9_findPlan_0 (i := 37) (q := 66) rfl rfl) 4 rfl <|
    V_iconst (tat ok_X9_findPlan_0 (i := 38) (q := 67) rfl rfl) ic_0 <|
    V_cs3 (ct_X9_isDark I L a1 a5 0 ) mo_X9_isDark (tat ok_X9_findPlan_0 (i := 39) (q := 70) rfl rfl) ml_X9_210 ⟨(Nat.le_of_ble_eq_true rfl), (Nat.le_of_ble_eq_true rfl)⟩ ⟨(Nat.le_of_ble_eq_true rfl), (Nat.le_of_ble_eq_true rfl)⟩ (Nat.le_of_ble_eq_true rfl) <|
    V_lload_n (tat ok_X9_findPlan_1 (i := 0) (q := 71) rfl rfl) 1 rfl rfl <|
    V_iconst (tat ok_X9_findPlan_1 (i := 1) (q := 72) rfl rfl) ic_0 <|
    V_iconst (tat ok_X9_findPlan_1 (i := 2) (q := 73) rfl rfl) ic_0 <|
    V_cs3 (ct_X9_isDark I L a1 0 0 ) mo_X9_isDark (tat ok_X9_findPlan_1 (i := 3) (q := 76) rfl rfl) ml_X9_210 ⟨(Nat.le_of_ble_eq_true rfl), (Nat.le_of_ble_eq_true rfl)⟩ ⟨(Nat.le_of_ble_eq_true rfl), (Nat.le_of_ble_eq_true rfl)⟩ (Nat.le_of_ble_eq_true rfl) <|
    V_ixor (tat ok_X9_findPlan_1 (i := 4) (q := 77) rfl rfl) <|
    V_iload (tat ok_X9_findPlan_1 (i := 5) (q := 79) rfl rfl) 4 rfl <|
    V_ishl (tat ok_X9_findPlan_1 (i := 6) (q := 80) rfl rfl) <|
    V_ior (tat ok_X9_findPlan_1 (i := 7) (q := 81) rfl rfl) <|
    V_istore_n (lv' := [(3, .int (a3 ||| (((F_X9_isDark a1 a5 0) ^^^ (F_X9_isDark a1 0 0)) <<< (a5 &&& 31)))), (0, .ref 33), (1, .long a1), (4, .int a4), (5, .int a5)]) (tat ok_X9_findPlan_1 (i := 8) (q := 82) rfl rfl) rfl (Nat.le_of_ble_eq_true rfl) rfl <|
    V_iinc (v := (a5 + 1)) (lv' := [(5, .int (a5 + 1)), (3, .int (a3 ||| (((F_X9_isDark a1 a5 0) ^^^ (F_X9_isDark a1 0 0)) <<< (a5 &&& 31)))), (0, .ref 33), (1, .long a1), (4, .int a4)]) (tat ok_X9_findPlan_1 (i := 9) (q := 85) rfl rfl) 4 rfl (ia ic_1) (Nat.le_of_ble_eq_true rfl) rfl <|
    V_goto (tat ok_X9_findPlan_1 (i := 10) (q := 88) rfl rfl) rfl <|
    V_pick [2, 3, 1, 4, 0] rfl (hk (a3 ||| (((F_X9_isDark a1 a5 0) ^^^ (F_X9_isDark a1 0 0)) <<< (a5 &&& 31))) (jx (P := P) kk rfl))
def F_X9_findPlan_243 (I : WI) (a1 : Int64) : (Int32 × WI) :=
  (1, I)
theorem V_X9_findPlan_243  {I : WI} {L : WL} {a1 : Int64}  {P : (Int32 × WI) → Prop} {t : Tg} (hr : ∀ v, P v → t = (some (.int (p1 v)), ly0, (p2 v), L, R0)) (kk : P (F_X9_findPlan_243 I a1)) : V (zM x_X9_findPlan 4 0 0 t) 243 [(0, .ref 33), (1, .long a1)] [] ly0 I L R0 0 0 :=
  V_iconst (tat ok_X9_findPlan_3 (i := 21) (q := 244) rfl rfl) ic_1 <|
    V_iret (tat ok_X9_findPlan_3 (i := 22) (q := 245) rfl rfl) _ rfl rfl (hr (1, I) (jx (P := P) kk rfl)) ⟨(Nat.le_of_ble_eq_true rfl), (Nat.le_of_ble_eq_true rfl)⟩
def F_X9_findPlan_240 (I : WI) (a1 : Int64) (s0 : Int32) : (Int32 × WI) :=
  (F_X9_findPlan_243 (u2 I 33 31 s0) a1)
theorem V_X9_findPlan_240  {I : WI} {L : WL} {a1 : Int64} {s0 : Int32} {P : (Int32 × WI) → Prop} {t : Tg} (hr : ∀ v, P v → t = (some (.int (p1 v)), ly0, (p2 v), L, R0)) (kk : P (F_X9_findPlan_240 I a1 s0)) : V (zM x_X9_findPlan 4 0 0 t) 240 [(0, .ref 33), (1, .long a1)] [.int s0, .ref 33] ly0 I L R0 0 0 :=
  V_putI (tat ok_X9_findPlan_3 (i := 20) (q := 243) rfl rfl) fk_X9_245 rfl rfl <|
    V_X9_findPlan_243  hr (jx (P := P) kk rfl)
def F_X9_findPlan_224 (I : WI) (a1 : Int64) (a3 : Int32) (a7 : Int32) (s0 : Int32) : (Int32 × WI) :=
  (if a3 ≤ a7 then (F_X9_findPlan_240 (u2 I 33 32 s0) a1 a3) else (F_X9_findPlan_240 (u2 I 33 32 s0) a1 a7))
theorem V_X9_findPlan_224  {I : WI} {L : WL} {a1 : Int64} {a3 : Int32} {a7 : Int32} {s0 : Int32} {P : (Int32 × WI) → Prop} {t : Tg} (hr : ∀ v, P v → t = (some (.int (p1 v)), ly0, (p2 v), L, R0)) (kk : P (F_X9_findPlan_224 I a1 a3 a7 s0)) : V (zM x_X9_findPlan 4 0 0 t) 224 [(0, .ref 33), (1, .long a1), (3, .int a3), (7, .int a7)] [.int s0, .ref 33] ly0 I L R0 0 0 :=
  V_putI (tat ok_X9_findPlan_3 (i := 12) (q := 227) rfl rfl) fk_X9_248 rfl rfl <|
    V_aload_n (tat ok_X9_findPlan_3 (i := 13) (q := 228) rfl rfl) 0 rfl rfl <|
    V_iload (tat ok_X9_findPlan_3 (i := 14) (q := 230) rfl rfl) 3 rfl <|
    V_iload_n (tat ok_X9_findPlan_3 (i := 15) (q := 231) rfl rfl) 2 rfl rfl <|
    V_icmp_ge (tat ok_X9_findPlan_3 (i := 16) (q := 234) rfl rfl) rfl (fun c7 => V_iload_n (tat ok_X9_findPlan_3 (i := 19) (q := 240) rfl rfl) 2 rfl rfl <|
    V_pick [0, 1] rfl (V_X9_findPlan_240  hr (jx (P := P) kk (if_pos c7)))) (fun c7 => V_iload (tat ok_X9_findPlan_3 (i := 17) (q := 236) rfl rfl) 3 rfl <|
    V_goto (tat ok_X9_findPlan_3 (i := 18) (q := 239) rfl rfl) rfl <|
    V_pick [0, 1] rfl (V_X9_findPlan_240  hr (jx (P := P) kk (if_neg c7))))
def F_X9_findPlan_170 (I : WI) (a1 : Int64) (a3 : Int32) (a4 : Int32) (a5 : Int32) (s0 : Int32) : (Int32 × WI) :=
  (if (2 * a5) = (((u2 I 33 32 s0) 33 0) + ((u2 I 33 32 s0) 33 1)) then (if a3 ≤ (a3 ^^^ ((1 <<< (((u2 I 33 32 s0) 33 0) &&& 31)) - 1)) then (F_X9_findPlan_224 (u2 I 33 32 s0) a1 a3 (a3 ^^^ ((1 <<< (((u2 I 33 32 s0) 33 0) &&& 31)) - 1)) a4) else (F_X9_findPlan_224 (u2 I 33 32 s0) a1 a3 (a3 ^^^ ((1 <<< (((u2 I 33 32 s0) 33 0) &&& 31)) - 1)) (a4 ^^^ ((1 <<< (((u2 I 33 32 s0) 33 1) &&& 31)) - 1)))) else (F_X9_findPlan_243 (u2 I 33 32 s0) a1))
theorem V_X9_findPlan_170  {I : WI} {L : WL} {a1 : Int64} {a3 : Int32} {a4 : Int32} {a5 : Int32} {s0 : Int32} {P : (Int32 × WI) → Prop} {t : Tg} (hr : ∀ v, P v → t = (some (.int (p1 v)), ly0, (p2 v), L, R0)) (kk : P (F_X9_findPlan_170 I a1 a3 a4 a5 s0)) : V (zM x_X9_findPlan 4 0 0 t) 170 [(0, .ref 33), (1, .long a1), (3, .int a3), (4, .int a4), (5, .int a5)] [.int s0, .ref 33] ly0 I L R0 0 0 :=
  V_putI (tat ok_X9_findPlan_2 (i := 19) (q := 173) rfl rfl) fk_X9_248 rfl rfl <|
    V_iconst (tat ok_X9_findPlan_2 (i := 20) (q := 174) rfl rfl) ic_2 <|
    V_iload (tat ok_X9_findPlan_2 (i := 21) (q := 176) rfl rfl) 4 rfl <|
    V_imul (tat ok_X9_findPlan_2 (i := 22) (q := 177) rfl rfl) <|
    V_aload_n (tat ok_X9_findPlan_2 (i := 23) (q := 178) rfl rfl) 0 rfl rfl <|
    V_getI (tat ok_X9_findPlan_2 (i := 24) (q := 181) rfl rfl) fk_X9_74 rfl <|
    V_aload_n (tat ok_X9_findPlan_2 (i := 25) (q := 182) rfl rfl) 0 rfl rfl <|
    V_getI (tat ok_X9_findPlan_2 (i := 26) (q := 185) rfl rfl) fk_X9_77 rfl <|
    V_iadd (tat ok_X9_findPlan_2 (i := 27) (q := 186) rfl rfl) <|
    V_icmp_ne (tat ok_X9_findPlan_2 (i := 28) (q := 189) rfl rfl) rfl (fun c5 => V_pick [0, 1] rfl (V_X9_findPlan_243  hr (jx (P := P) kk (if_neg c5)))) (fun c5 => V_iload_n (tat ok_X9_findPlan_2 (i := 29) (q := 190) rfl rfl) 2 rfl rfl <|
    V_iconst (tat ok_X9_findPlan_2 (i := 30) (q := 191) rfl rfl) ic_1 <|
    V_aload_n (tat ok_X9_findPlan_2 (i := 31) (q := 192) rfl rfl) 0 rfl rfl <|
    V_getI (tat ok_X9_findPlan_2 (i := 32) (q := 195) rfl rfl) fk_X9_74 rfl <|
    V_ishl (tat ok_X9_findPlan_2 (i := 33) (q := 196) rfl rfl) <|
    V_iconst (tat ok_X9_findPlan_2 (i := 34) (q := 197) rfl rfl) ic_1 <|
    V_isub (tat ok_X9_findPlan_2 (i := 35) (q := 198) rfl rfl) <|
    V_ixor (tat ok_X9_findPlan_2 (i := 36) (q := 199) rfl rfl) <|
    V_istore (lv' := [(7, .int (a3 ^^^ ((1 <<< (((u2 I 33 32 s0) 33 0) &&& 31)) - 1))), (0, .ref 33), (1, .long a1), (3, .int a3), (4, .int a4), (5, .int a5)]) (tat ok_X9_findPlan_2 (i := 37) (q := 201) rfl rfl) (Nat.le_of_ble_eq_true rfl) rfl <|
    V_aload_n (tat ok_X9_findPlan_2 (i := 38) (q := 202) rfl rfl) 1 rfl rfl <|
    V_iload (tat ok_X9_findPlan_2 (i := 39) (q := 204) rfl rfl) 0 rfl <|
    V_iload_n (tat ok_X9_findPlan_3 (i := 0) (q := 205) rfl rfl) 3 rfl rfl <|
    V_icmp_ge (tat ok_X9_findPlan_3 (i := 1) (q := 208) rfl rfl) rfl (fun c6 => V_iload (tat ok_X9_findPlan_3 (i := 11) (q := 224) rfl rfl) 4 rfl <|
    V_pick [1, 2, 3, 0] rfl (V_X9_findPlan_224  hr (jx (P := P) kk (Eq.trans (if_pos c5) (if_pos c6))))) (fun c6 => V_iload (tat ok_X9_findPlan_3 (i := 2) (q := 210) rfl rfl) 4 rfl <|
    V_iconst (tat ok_X9_findPlan_3 (i := 3) (q := 211) rfl rfl) ic_1 <|
    V_aload_n (tat ok_X9_findPlan_3 (i := 4) (q := 212) rfl rfl) 1 rfl rfl <|
    V_getI (tat ok_X9_findPlan_3 (i := 5) (q := 215) rfl rfl) fk_X9_77 rfl <|
    V_ishl (tat ok_X9_findPlan_3 (i := 6) (q := 216) rfl rfl) <|
    V_iconst (tat ok_X9_findPlan_3 (i := 7) (q := 217) rfl rfl) ic_1 <|
    V_isub (tat ok_X9_findPlan_3 (i := 8) (q := 218) rfl rfl) <|
    V_ixor (tat ok_X9_findPlan_3 (i := 9) (q := 219) rfl rfl) <|
    V_goto (tat ok_X9_findPlan_3 (i := 10) (q := 222) rfl rfl) rfl <|
    V_pick [1, 2, 3, 0] rfl (V_X9_findPlan_224  hr (jx (P := P) kk (Eq.trans (if_pos c5) (if_neg c6))))))
def F_X9_findPlan_145 (I : WI) (a1 : Int64) (a3 : Int32) (a4 : Int32) (a5 : Int32) (a6 : Int32) (s0 : Int32) : (Int32 × WI) :=
  (if a6 = 0 then (F_X9_findPlan_170 (u2 I 33 31 s0) a1 a3 a4 a5 a4) else (F_X9_findPlan_170 (u2 I 33 31 s0) a1 a3 a4 a5 (a4 ^^^ ((1 <<< (((u2 I 33 31 s0) 33 1) &&& 31)) - 1))))
theorem V_X9_findPlan_145  {I : WI} {L : WL} {a1 : Int64} {a3 : Int32} {a4 : Int32} {a5 : Int32} {a6 : Int32} {s0 : Int32} {P : (Int32 × WI) → Prop} {t : Tg} (hb6 : bz a6 = a6) (hr : ∀ v, P v → t = (some (.int (p1 v)), ly0, (p2 v), L, R0)) (kk : P (F_X9_findPlan_145 I a1 a3 a4 a5 a6 s0)) : V (zM x_X9_findPlan 4 0 0 t) 145 [(0, .ref 33), (1, .long a1), (3, .int a3), (4, .int a4), (5, .int a5), (6, .int a6)] [.int s0, .ref 33] ly0 I L R0 0 0 :=
  V_putI (tat ok_X9_findPlan_2 (i := 5) (q := 148) rfl rfl) fk_X9_245 rfl rfl <|
    V_aload_n (tat ok_X9_findPlan_2 (i := 6) (q := 149) rfl rfl) 0 rfl rfl <|
    V_iload (tat ok_X9_findPlan_2 (i := 7) (q := 151) rfl rfl) 5 rfl <|
    V_if_eq (tat ok_X9_findPlan_2 (i := 8) (q := 154) rfl rfl) rfl (fun c4 => V_iload (tat ok_X9_findPlan_2 (i := 18) (q := 170) rfl rfl) 3 rfl <|
    V_pick [0, 1, 2, 3, 4] rfl (V_X9_findPlan_170  hr (jx (P := P) kk (if_pos c4)))) (fun c4 => V_iload (tat ok_X9_findPlan_2 (i := 9) (q := 156) rfl rfl) 3 rfl <|
    V_iconst (tat ok_X9_findPlan_2 (i := 10) (q := 157) rfl rfl) ic_1 <|
    V_aload_n (tat ok_X9_findPlan_2 (i := 11) (q := 158) rfl rfl) 0 rfl rfl <|
    V_getI (tat ok_X9_findPlan_2 (i := 12) (q := 161) rfl rfl) fk_X9_77 rfl <|
    V_ishl (tat ok_X9_findPlan_2 (i := 13) (q := 162) rfl rfl) <|
    V_iconst (tat ok_X9_findPlan_2 (i := 14) (q := 163) rfl rfl) ic_1 <|
    V_isub (tat ok_X9_findPlan_2 (i := 15) (q := 164) rfl rfl) <|
    V_ixor (tat ok_X9_findPlan_2 (i := 16) (q := 165) rfl rfl) <|
    V_goto (tat ok_X9_findPlan_2 (i := 17) (q := 168) rfl rfl) rfl <|
    V_pick [0, 1, 2, 3, 4] rfl (V_X9_findPlan_170  hr (jx (P := P) kk (if_neg c4))))
def F_X9_findPlan_123 (I : WI) (a1 : Int64) (a3 : Int32) (a4 : Int32) (a5 : Int32) (s0 : Int32) : (Int32 × WI) :=
  (if s0 = 0 then (F_X9_findPlan_145 I a1 a3 a4 a5 s0 a3) else (F_X9_findPlan_145 I a1 a3 a4 a5 s0 (a3 ^^^ ((1 <<< ((I 33 0) &&& 31)) - 1))))
theorem V_X9_findPlan_123  {I : WI} {L : WL} {a1 : Int64} {a3 : Int32} {a4 : Int32} {a5 : Int32} {s0 : Int32} {P : (Int32 × WI) → Prop} {t : Tg} (hs0 : bz s0 = s0) (hr : ∀ v, P v → t = (some (.int (p1 v)), ly0, (p2 v), L, R0)) (kk : P (F_X9_findPlan_123 I a1 a3 a4 a5 s0)) : V (zM x_X9_findPlan 4 0 0 t) 123 [(0, .ref 33), (1, .long a1), (3, .int a3), (4, .int a4), (5, .int a5)] [.int s0] ly0 I L R0 0 0 :=
  V_istore (lv' := [(6, .int s0), (0, .ref 33), (1, .long a1), (3, .int a3), (4, .int a4), (5, .int a5)]) (tat ok_X9_findPlan_1 (i := 31) (q := 125) rfl rfl) (Nat.le_of_ble_eq_true rfl) rfl <|
    V_aload_n (tat ok_X9_findPlan_1 (i := 32) (q := 126) rfl rfl) 1 rfl rfl <|
    V_iload (tat ok_X9_findPlan_1 (i := 33) (q := 128) rfl rfl) 0 rfl <|
    V_if_eq (tat ok_X9_findPlan_1 (i := 34) (q := 131) rfl rfl) rfl (fun c3 => V_iload_n (tat ok_X9_findPlan_2 (i := 4) (q := 145) rfl rfl) 3 rfl rfl <|
    V_pick [1, 2, 3, 4, 5, 0] rfl (V_X9_findPlan_145 hs0 hr (jx (P := P) kk (if_pos c3)))) (fun c3 => V_iload_n (tat ok_X9_findPlan_1 (i := 35) (q := 132) rfl rfl) 3 rfl rfl <|
    V_iconst (tat ok_X9_findPlan_1 (i := 36) (q := 133) rfl rfl) ic_1 <|
    V_aload_n (tat ok_X9_findPlan_1 (i := 37) (q := 134) rfl rfl) 1 rfl rfl <|
    V_getI (tat ok_X9_findPlan_1 (i := 38) (q := 137) rfl rfl) fk_X9_74 rfl <|
    V_ishl (tat ok_X9_findPlan_1 (i := 39) (q := 138) rfl rfl) <|
    V_iconst (tat ok_X9_findPlan_2 (i := 0) (q := 139) rfl rfl) ic_1 <|
    V_isub (tat ok_X9_findPlan_2 (i := 1) (q := 140) rfl rfl) <|
    V_ixor (tat ok_X9_findPlan_2 (i := 2) (q := 141) rfl rfl) <|
    V_goto (tat ok_X9_findPlan_2 (i := 3) (q := 144) rfl rfl) rfl <|
    V_pick [1, 2, 3, 4, 5, 0] rfl (V_X9_findPlan_145 hs0 hr (jx (P := P) kk (if_neg c3))))
def F_X9_findPlan_88 (I : WI) (a1 : Int64) (a3 : Int32) (a4 : Int32) : (Int32 × WI) :=
  (if (2 * ((F_X9_many (Int32.toInt64 a3)) + (F_X9_many (Int32.toInt64 a4)))) ≤ ((I 33 0) + (I 33 1)) then (F_X9_findPlan_123 I a1 a3 a4 ((F_X9_many (Int32.toInt64 a3)) + (F_X9_many (Int32.toInt64 a4))) 0) else (F_X9_findPlan_123 I a1 a3 a4 ((F_X9_many (Int32.toInt64 a3)) + (F_X9_many (Int32.toInt64 a4))) 1))
theorem V_X9_findPlan_88  {I : WI} {L : WL} {a1 : Int64} {a3 : Int32} {a4 : Int32} {P : (Int32 × WI) → Prop} {t : Tg} (hr : ∀ v, P v → t = (some (.int (p1 v)), ly0, (p2 v), L, R0)) (kk : P (F_X9_findPlan_88 I a1 a3 a4)) : V (zM x_X9_findPlan 4 0 0 t) 88 [(0, .ref 33), (1, .long a1), (3, .int a3), (4, .int a4)] [] ly0 I L R0 0 0 :=
  V_iload_n (tat ok_X9_findPlan_1 (i := 11) (q := 89) rfl rfl) 2 rfl rfl <|
    V_i2l (tat ok_X9_findPlan_1 (i := 12) (q := 90) rfl rfl) <|
    V_cs1 (ct_X9_many I L (Int32.toInt64 a3) ) mo_X9_many (tat ok_X9_findPlan_1 (i := 13) (q := 93) rfl rfl) ml_X9_220 ⟨(Nat.le_of_ble_eq_true rfl), (Nat.le_of_ble_eq_true rfl)⟩ ⟨(Nat.le_of_ble_eq_true rfl), (Nat.le_of_ble_eq_true rfl)⟩ (Nat.le_of_ble_eq_true rfl) <|
    V_iload (tat ok_X9_findPlan_1 (i := 14) (q := 95) rfl rfl) 3 rfl <|
    V_i2l (tat ok_X9_findPlan_1 (i := 15) (q := 96) rfl rfl) <|
    V_cs1 (ct_X9_many I L (Int32.toInt64 a4) ) mo_X9_many (tat ok_X9_findPlan_1 (i := 16) (q := 99) rfl rfl) ml_X9_220 ⟨(Nat.le_of_ble_eq_true rfl), (Nat.le_of_ble_eq_true rfl)⟩ ⟨(Nat.le_of_ble_eq_true rfl), (Nat.le_of_ble_eq_true rfl)⟩ (Nat.le_of_ble_eq_true rfl) <|
    V_iadd (tat ok_X9_findPlan_1 (i := 17) (q := 100) rfl rfl) <|
    V_istore (lv' := [(5, .int ((F_X9_many (Int32.toInt64 a3)) + (F_X9_many (Int32.toInt64 a4)))), (0, .ref 33), (1, .long a1), (3, .int a3), (4, .int a4)]) (tat ok_X9_findPlan_1 (i := 18) (q := 102) rfl rfl) (Nat.le_of_ble_eq_true rfl) rfl <|
    V_iconst (tat ok_X9_findPlan_1 (i := 19) (q := 103) rfl rfl) ic_2 <|
    V_iload (tat ok_X9_findPlan_1 (i := 20) (q := 105) rfl rfl) 0 rfl <|
    V_imul (tat ok_X9_findPlan_1 (i := 21) (q := 106) rfl rfl) <|
    V_aload_n (tat ok_X9_findPlan_1 (i := 22) (q := 107) rfl rfl) 1 rfl rfl <|
    V_getI (tat ok_X9_findPlan_1 (i := 23) (q := 110) rfl rfl) fk_X9_74 rfl <|
    V_aload_n (tat ok_X9_findPlan_1 (i := 24) (q := 111) rfl rfl) 1 rfl rfl <|
    V_getI (tat ok_X9_findPlan_1 (i := 25) (q := 114) rfl rfl) fk_X9_77 rfl <|
    V_iadd (tat ok_X9_findPlan_1 (i := 26) (q := 115) rfl rfl) <|
    V_icmp_le (tat ok_X9_findPlan_1 (i := 27) (q := 118) rfl rfl) rfl (fun c2 => V_iconst (tat ok_X9_findPlan_1 (i := 30) (q := 123) rfl rfl) ic_0 <|
    V_pick [1, 2, 3, 4, 0] rfl (V_X9_findPlan_123 rfl hr (jx (P := P) kk (if_pos c2)))) (fun c2 => V_iconst (tat ok_X9_findPlan_1 (i := 28) (q := 119) rfl rfl) ic_1 <|
    V_goto (tat ok_X9_findPlan_1 (i := 29) (q := 122) rfl rfl) rfl <|
    V_pick [1, 2, 3, 4, 0] rfl (V_X9_findPlan_123 rfl hr (jx (P := P) kk (if_neg c2))))
def F_X9_findPlan_53 (I : WI) (a1 : Int64) (a3 : Int32) (a4 : Int32) (a5 : Int32) : (Int32 × WI) :=
  (fun q : Int32 × Int32 => (F_X9_findPlan_88 I a1 (p2 q) a4)) (fr0 (fun i x => (F_X9_findPlan_62_2 I a1 a4 i x)) (I 33 0) (fu a5 (I 33 0)) a5 a3)
theorem V_X9_findPlan_53  {I : WI} {L : WL} {a1 : Int64} {a3 : Int32} {a4 : Int32} {a5 : Int32} {P : (Int32 × WI) → Prop} {t : Tg} (hb3 : bz a3 = a3) (hb5 : bz a5 = a5) (hr : ∀ v, P v → t = (some (.int (p1 v)), ly0, (p2 v), L, R0)) (kk : P (F_X9_findPlan_53 I a1 a3 a4 a5)) : V (zM x_X9_findPlan 4 0 0 t) 53 [(0, .ref 33), (1, .long a1), (3, .int a3), (4, .int a4), (5, .int a5)] [] ly0 I L R0 0 0 :=
  V_fr0 (fun i x => (F_X9_findPlan_62_2 I a1 a4 i x)) (I 33 0) (fun i x => V (zM x_X9_findPlan 4 0 0 t) 53 [(0, .ref 33), (1, .long a1), (3, .int x), (4, .int a4), (5, .int i)] [] ly0 I L R0 0 0) (fun i x => P ((F_X9_findPlan_88 I a1 x a4))) (c := a5) (s := a3) (fun i x kx kb => V_iload (tat ok_X9_findPlan_0 (i := 31) (q := 55) rfl rfl) 4 rfl <|
    V_aload_n (tat ok_X9_findPlan_0 (i := 32) (q := 56) rfl rfl) 0 rfl rfl <|
    V_getI (tat ok_X9_findPlan_0 (i := 33) (q := 59) rfl rfl) fk_X9_74 rfl <|
    V_icmp_ge (tat ok_X9_findPlan_0 (i := 34) (q := 62) rfl rfl) rfl (fun c0 => V_pick [0, 1, 2, 3] rfl (V_X9_findPlan_88  hr (kx c0))) (fun c0 => V_X9_findPlan_62_2 (P := (fun x => (fun i x => V (zM x_X9_findPlan 4 0 0 t) 53 [(0, .ref 33), (1, .long a1), (3, .int x), (4, .int a4), (5, .int i)] [] ly0 I L R0 0 0) (i + 1) x))  (fun _ e => e) (kb c0))) kk
def F_X9_findPlan_50 (I : WI) (a1 : Int64) (a3 : Int32) (a4 : Int32) : (Int32 × WI) :=
  (F_X9_findPlan_53 I a1 a3 a4 0)
theorem V_X9_findPlan_50  {I : WI} {L : WL} {a1 : Int64} {a3 : Int32} {a4 : Int32} {P : (Int32 × WI) → Prop} {t : Tg} (hb3 : bz a3 = a3) (hr : ∀ v, P v → t = (some (.int (p1 v)), ly0, (p2 v), L, R0)) (kk : P (F_X9_findPlan_50 I a1 a3 a4)) : V (zM x_X9_findPlan 4 0 0 t) 50 [(0, .ref 33), (1, .long a1), (3, .int a3), (4, .int a4)] [] ly0 I L R0 0 0 :=
  V_iconst (tat ok_X9_findPlan_0 (i := 29) (q := 51) rfl rfl) ic_0 <|
    V_istore (lv' := [(5, .int 0), (0, .ref 33), (1, .long a1), (3, .int a3), (4, .int a4)]) (tat ok_X9_findPlan_0 (i := 30) (q := 53) rfl rfl) (Nat.le_of_ble_eq_true rfl) rfl <|
    V_pick [1, 2, 3, 4, 0] rfl (V_X9_findPlan_53 hb3 rfl hr (jx (P := P) kk rfl))
def F_X9_findPlan_20 (I : WI) (a1 : Int64) (a3 : Int32) (a4 : Int32) (a5 : Int32) : (Int32 × WI) :=
  (fun q : Int32 × Int32 => (F_X9_findPlan_50 I a1 a3 (p2 q))) (fr0 (fun i x => (F_X9_findPlan_29_1 I a1 a3 i x)) (I 33 1) (fu a5 (I 33 1)) a5 a4)
theorem V_X9_findPlan_20  {I : WI} {L : WL} {a1 : Int64} {a3 : Int32} {a4 : Int32} {a5 : Int32} {P : (Int32 × WI) → Prop} {t : Tg} (hb3 : bz a3 = a3) (hb4 : bz a4 = a4) (hb5 : bz a5 = a5) (hr : ∀ v, P v → t = (some (.int (p1 v)), ly0, (p2 v), L, R0)) (kk : P (F_X9_findPlan_20 I a1 a3 a4 a5)) : V (zM x_X9_findPlan 4 0 0 t) 20 [(0, .ref 33), (1, .long a1), (3, .int a3), (4, .int a4), (5, .int a5)] [] ly0 I L R0 0 0 :=
  V_fr0 (fun i x => (F_X9_findPlan_29_1 I a1 a3 i x)) (I 33 1) (fun i x => V (zM x_X9_findPlan 4 0 0 t) 20 [(0, .ref 33), (1, .long a1), (3, .int a3), (4, .int x), (5, .int i)] [] ly0 I L R0 0 0) (fun i x => P ((F_X9_findPlan_50 I a1 a3 x))) (c := a5) (s := a4) (fun i x kx kb => V_iload (tat ok_X9_findPlan_0 (i := 14) (q := 22) rfl rfl) 4 rfl <|
    V_aload_n (tat ok_X9_findPlan_0 (i := 15) (q := 23) rfl rfl) 0 rfl rfl <|
    V_getI (tat ok_X9_findPlan_0 (i := 16) (q := 26) rfl rfl) fk_X9_77 rfl <|
    V_icmp_ge (tat ok_X9_findPlan_0 (i := 17) (q := 29) rfl rfl) rfl (fun c0 => V_pick [0, 1, 2, 3] rfl (V_X9_findPlan_50 hb3 hr (kx c0))) (fun c0 => V_X9_findPlan_29_1 (P := (fun x => (fun i x => V (zM x_X9_findPlan 4 0 0 t) 20 [(0, .ref 33), (1, .long a1), (3, .int a3), (4, .int x), (5, .int i)] [] ly0 I L R0 0 0) (i + 1) x)) hb3 (fun _ e => e) (kb c0))) kk
def F_X9_findPlan (I : WI) (a1 : Int64) : (Int32 × WI) :=
  (if (lg_cmp (F_X9_formNow I a1) 0) = 0 then (F_X9_findPlan_20 I a1 0 0 0) else (0, I))
theorem V_X9_findPlan  {I : WI} {L : WL} {a1 : Int64}  {P : (Int32 × WI) → Prop} {t : Tg} (hr : ∀ v, P v → t = (some (.int (p1 v)), ly0, (p2 v), L, R0)) (kk : P (F_X9_findPlan I a1)) : V (zM x_X9_findPlan 4 0 0 t) 0 [(0, .ref 33), (1, .long a1)] [] ly0 I L R0 0 0 :=
  V_aload_n (tat ok_X9_findPlan_0 (i := 0) (q := 1) rfl rfl) 0 rfl rfl <|
    V_lload_n (tat ok_X9_findPlan_0 (i := 1) (q := 2) rfl rfl) 1 rfl rfl <|
    V_cv1 (ct_X9_formNow I L a1 ) mo_X9_formNow (tat ok_X9_findPlan_0 (i := 2) (q := 5) rfl rfl) ml_X9_231 rfl ⟨by decide, _, rfl, rfl⟩ ⟨(Nat.le_of_ble_eq_true rfl), (Nat.le_of_ble_eq_true rfl)⟩ ⟨(Nat.le_of_ble_eq_true rfl), (Nat.le_of_ble_eq_true rfl)⟩ (Nat.le_of_ble_eq_true rfl) <|
    V_lconst (v := 0) (tat ok_X9_findPlan_0 (i := 3) (q := 6) rfl rfl) rfl <|
    V_lcmp (tat ok_X9_findPlan_0 (i := 4) (q := 7) rfl rfl) <|
    V_if_eq (tat ok_X9_findPlan_0 (i := 5) (q := 10) rfl rfl) rfl (fun c1 => V_iconst (tat ok_X9_findPlan_0 (i := 8) (q := 13) rfl rfl) ic_0 <|
    V_istore_n (lv' := [(3, .int 0), (0, .ref 33), (1, .long a1)]) (tat ok_X9_findPlan_0 (i := 9) (q := 14) rfl rfl) rfl (Nat.le_of_ble_eq_true rfl) rfl <|
    V_iconst (tat ok_X9_findPlan_0 (i := 10) (q := 15) rfl rfl) ic_0 <|
    V_istore (lv' := [(4, .int 0), (3, .int 0), (0, .ref 33), (1, .long a1)]) (tat ok_X9_findPlan_0 (i := 11) (q := 17) rfl rfl) (Nat.le_of_ble_eq_true rfl) rfl <|
    V_iconst (tat ok_X9_findPlan_0 (i := 12) (q := 18) rfl rfl) ic_0 <|
    V_istore (lv' := [(5, .int 0), (4, .int 0), (3, .int 0), (0, .ref 33), (1, .long a1)]) (tat ok_X9_findPlan_0 (i := 13) (q := 20) rfl rfl) (Nat.le_of_ble_eq_true rfl) rfl <|
    V_pick [3, 4, 2, 1, 0] rfl (V_X9_findPlan_20 rfl rfl rfl hr (jx (P := P) kk (if_pos c1)))) (fun c1 => V_iconst (tat ok_X9_findPlan_0 (i := 6) (q := 11) rfl rfl) ic_0 <|
    V_iret (tat ok_X9_findPlan_0 (i := 7) (q := 12) rfl rfl) _ rfl rfl (hr (0, I) (jx (P := P) kk (if_neg c1))) ⟨(Nat.le_of_ble_eq_true rfl), (Nat.le_of_ble_eq_true rfl)⟩)
theorem ct_X9_findPlan  (I : WI) (L : WL) (a1 : Int64)  : Ct x_X9_findPlan 4 [.ref 33, .long a1] ly0 I L R0 0 0 (some (.int (p1 (F_X9_findPlan I a1))), ly0, (p2 (F_X9_findPlan I a1)), L, R0) :=
  Ct_of_V mo_X9_findPlan.1 (Nat.le_of_ble_eq_true rfl) (V_X9_findPlan (P := fun x => x = (F_X9_findPlan I a1))  (fun _ e => by rw [e]) rfl)
def F_X9_planTold_62 (I : WI) (a1 : Int32) (s0 : Int32) : Int32 :=
  s0
theorem V_X9_planTold_62  {I : WI} {L : WL} {a1 : Int32} {s0 : Int32} {P : Int32 → Prop} {t : Tg} (hr : ∀ v, P v → t = (some (.int v), ly0, I, L, R0)) (kk : P (F_X9_planTold_62 I a1 s0)) : V (zM x_X9_planTold 2 0 0 t) 62 [(0, .ref 33), (1, .int a1)] [.int s0] ly0 I L R0 0 0 :=
  V_iret (tat ok_X9_planTold_0 (i := 34) (q := 63) rfl rfl) _ rfl (nar_int _) (hr s0 (jx (P := P) kk rfl)) ⟨(Nat.le_of_ble_eq_true rfl), (Nat.le_of_ble_eq_true rfl)⟩
def F_X9_planTold (I : WI) (a1 : Int32) : Int32 :=
  (if a1 = 0 then (F_X9_planTold_62 I a1 ((F_X9_many (Int32.toInt64 (I 33 31))) + (F_X9_many (Int32.toInt64 (I 33 32))))) else (if a1 = 1 then (F_X9_planTold_62 I a1 (I 33 31)) else (if a1 = 2 then (F_X9_planTold_62 I a1 (I 33 32)) else (if (F_X9_many (Int32.toInt64 (I 33 31))) ≤ (F_X9_many (Int32.toInt64 (I 33 32))) then (F_X9_planTold_62 I a1 (F_X9_many (Int32.toInt64 (I 33 32)))) else (F_X9_planTold_62 I a1 (F_X9_many (Int32.toInt64 (I 33 31))))))))
theorem V_X9_planTold  {I : WI} {L : WL} {a1 : Int32}  {P : Int32 → Prop} {t : Tg} (hr : ∀ v, P v → t = (some (.int v), ly0, I, L, R0)) (kk : P (F_X9_planTold I a1)) : V (zM x_X9_planTold 2 0 0 t) 0 [(0, .ref 33), (1, .int a1)] [] ly0 I L R0 0 0 :=
  V_aload_n (tat ok_X9_planTold_0 (i := 0) (q := 1) rfl rfl) 0 rfl rfl <|
    V_getI (tat ok_X9_planTold_0 (i := 1) (q := 4) rfl rfl) fk_X9_245 rfl <|
    V_i2l (tat ok_X9_planTold_0 (i := 2) (q := 5) rfl rfl) <|
    V_cs1 (ct_X9_many I L (Int32.toInt64 (I 33 31)) ) mo_X9_many (tat ok_X9_planTold_0 (i := 3) (q := 8) rfl rfl) ml_X9_220 ⟨(Nat.le_of_ble_eq_true rfl), (Nat.le_of_ble_eq_true rfl)⟩ ⟨(Nat.le_of_ble_eq_true rfl), (Nat.le_of_ble_eq_true rfl)⟩ (Nat.le_of_ble_eq_true rfl) <|
    V_istore_n (lv' := [(2, .int (F_X9_many (Int32.toInt64 (I 33 31)))), (0, .ref 33), (1, .int a1)]) (tat ok_X9_planTold_0 (i := 4) (q := 9) rfl rfl) rfl (Nat.le_of_ble_eq_true rfl) rfl <|
    V_aload_n (tat ok_X9_planTold_0 (i := 5) (q := 10) rfl rfl) 1 rfl rfl <|
    V_getI (tat ok_X9_planTold_0 (i := 6) (q := 13) rfl rfl) fk_X9_248 rfl <|
    V_i2l (tat ok_X9_planTold_0 (i := 7) (q := 14) rfl rfl) <|
    V_cs1 (ct_X9_many I L (Int32.toInt64 (I 33 32)) ) mo_X9_many (tat ok_X9_planTold_0 (i := 8) (q := 17) rfl rfl) ml_X9_220 ⟨(Nat.le_of_ble_eq_true rfl), (Nat.le_of_ble_eq_true rfl)⟩ ⟨(Nat.le_of_ble_eq_true rfl), (Nat.le_of_ble_eq_true rfl)⟩ (Nat.le_of_ble_eq_true rfl) <|
    V_istore_n (lv' := [(3, .int (F_X9_many (Int32.toInt64 (I 33 32)))), (2, .int (F_X9_many (Int32.toInt64 (I 33 31)))), (0, .ref 33), (1, .int a1)]) (tat ok_X9_planTold_0 (i := 9) (q := 18) rfl rfl) rfl (Nat.le_of_ble_eq_true rfl) rfl <|
    V_iload_n (tat ok_X9_planTold_0 (i := 10) (q := 19) rfl rfl) 3 rfl rfl <|
    V_if_ne (tat ok_X9_planTold_0 (i := 11) (q := 22) rfl rfl) rfl (fun c1 => V_iload_n (tat ok_X9_planTold_0 (i := 16) (q := 29) rfl rfl) 3 rfl rfl <|
    V_iconst (tat ok_X9_planTold_0 (i := 17) (q := 30) rfl rfl) ic_1 <|
    V_icmp_ne (tat ok_X9_planTold_0 (i := 18) (q := 33) rfl rfl) rfl (fun c2 => V_iload_n (tat ok_X9_planTold_0 (i := 22) (q := 41) rfl rfl) 3 rfl rfl <|
    V_iconst (tat ok_X9_planTold_0 (i := 23) (q := 42) rfl rfl) ic_2 <|
    V_icmp_ne (tat ok_X9_planTold_0 (i := 24) (q := 45) rfl rfl) rfl (fun c3 => V_iload_n (tat ok_X9_planTold_0 (i := 28) (q := 53) rfl rfl) 1 rfl rfl <|
    V_iload_n (tat ok_X9_planTold_0 (i := 29) (q := 54) rfl rfl) 0 rfl rfl <|
    V_icmp_le (tat ok_X9_planTold_0 (i := 30) (q := 57) rfl rfl) rfl (fun c4 => V_iload_n (tat ok_X9_planTold_0 (i := 33) (q := 62) rfl rfl) 0 rfl rfl <|
    V_pick [2, 3] rfl (V_X9_planTold_62  hr (jx (P := P) kk (Eq.trans (if_neg c1) (Eq.trans (if_neg c2) (Eq.trans (if_neg c3) (if_pos c4))))))) (fun c4 => V_iload_n (tat ok_X9_planTold_0 (i := 31) (q := 58) rfl rfl) 1 rfl rfl <|
    V_goto (tat ok_X9_planTold_0 (i := 32) (q := 61) rfl rfl) rfl <|
    V_pick [2, 3] rfl (V_X9_planTold_62  hr (jx (P := P) kk (Eq.trans (if_neg c1) (Eq.trans (if_neg c2) (Eq.trans (if_neg c3) (if_neg c4)))))))) (fun c3 => V_aload_n (tat ok_X9_planTold_0 (i := 25) (q := 46) rfl rfl) 2 rfl rfl <|
    V_getI (tat ok_X9_planTold_0 (i := 26) (q := 49) rfl rfl) fk_X9_248 rfl <|
    V_goto (tat ok_X9_planTold_0 (i := 27) (q := 52) rfl rfl) rfl <|
    V_pick [2, 3] rfl (V_X9_planTold_62  hr (jx (P := P) kk (Eq.trans (if_neg c1) (Eq.trans (if_neg c2) (if_pos c3))))))) (fun c2 => V_aload_n (tat ok_X9_planTold_0 (i := 19) (q := 34) rfl rfl) 2 rfl rfl <|
    V_getI (tat ok_X9_planTold_0 (i := 20) (q := 37) rfl rfl) fk_X9_245 rfl <|
    V_goto (tat ok_X9_planTold_0 (i := 21) (q := 40) rfl rfl) rfl <|
    V_pick [2, 3] rfl (V_X9_planTold_62  hr (jx (P := P) kk (Eq.trans (if_neg c1) (if_pos c2)))))) (fun c1 => V_iload_n (tat ok_X9_planTold_0 (i := 12) (q := 23) rfl rfl) 1 rfl rfl <|
    V_iload_n (tat ok_X9_planTold_0 (i := 13) (q := 24) rfl rfl) 0 rfl rfl <|
    V_iadd (tat ok_X9_planTold_0 (i := 14) (q := 25) rfl rfl) <|
    V_goto (tat ok_X9_planTold_0 (i := 15) (q := 28) rfl rfl) rfl <|
    V_pick [2, 3] rfl (V_X9_planTold_62  hr (jx (P := P) kk (if_pos c1))))
theorem ct_X9_planTold  (I : WI) (L : WL) (a1 : Int32)  : Ct x_X9_planTold 2 [.ref 33, .int a1] ly0 I L R0 0 0 (some (.int (F_X9_planTold I a1)), ly0, I, L, R0) :=
  Ct_of_V mo_X9_planTold.1 (Nat.le_of_ble_eq_true rfl) (V_X9_planTold (P := fun x => x = (F_X9_planTold I a1))  (fun _ e => by rw [e]) rfl)
def F_X9_plan_50 (I : WI) (L : WL) (a1 : Int32) (s0 : Int32) : (Int32 × WI) :=
  (s0, I)
theorem V_X9_plan_50  {I : WI} {L : WL} {a1 : Int32} {s0 : Int32} {P : (Int32 × WI) → Prop} {t : Tg} (hr : ∀ v, P v → t = (some (.int (p1 v)), ly0, (p2 v), L, R0)) (kk : P (F_X9_plan_50 I L a1 s0)) : V (zM x_X9_plan 5 0 0 t) 50 [(0, .ref 33), (1, .int a1)] [.int s0] ly0 I L R0 0 0 :=
  V_iret (tat ok_X9_plan_0 (i := 26) (q := 51) rfl rfl) _ rfl (nar_int _) (hr (s0, I) (jx (P := P) kk rfl)) ⟨(Nat.le_of_ble_eq_true rfl), (Nat.le_of_ble_eq_true rfl)⟩
def F_X9_plan (I : WI) (L : WL) (a1 : Int32) : (Int32 × WI) :=
  (if (F_X9_in (Int32.toInt64 a1) 0 3) = 0 then ((-1), I) else (if (bz (I 33 4)) = 0 then ((-2), I) else (if (p1 (F_X9_findPlan I ((L 33 2) ^^^ (L 33 3)))) = 0 then (F_X9_plan_50 (p2 (F_X9_findPlan I ((L 33 2) ^^^ (L 33 3)))) L a1 (-4)) else (F_X9_plan_50 (p2 (F_X9_findPlan I ((L 33 2) ^^^ (L 33 3)))) L a1 (F_X9_planTold (p2 (F_X9_findPlan I ((L 33 2) ^^^ (L 33 3)))) a1)))))
theorem V_X9_plan  {I : WI} {L : WL} {a1 : Int32}  {P : (Int32 × WI) → Prop} {t : Tg} (hr : ∀ v, P v → t = (some (.int (p1 v)), ly0, (p2 v), L, R0)) (kk : P (F_X9_plan I L a1)) : V (zM x_X9_plan 5 0 0 t) 0 [(0, .ref 33), (1, .int a1)] [] ly0 I L R0 0 0 :=
  V_iload_n (tat ok_X9_plan_0 (i := 0) (q := 1) rfl rfl) 1 rfl rfl <|
    V_i2l (tat ok_X9_plan_0 (i := 1) (q := 2) rfl rfl) <|
    V_lconst (v := 0) (tat ok_X9_plan_0 (i := 2) (q := 3) rfl rfl) rfl <|
    V_ldc2 (tat ok_X9_plan_0 (i := 3) (q := 6) rfl rfl) (gw_in kl_X9_251 rfl) <|
    V_cs3 (ct_X9_in I L (Int32.toInt64 a1) 0 3 ) mo_X9_in (tat ok_X9_plan_0 (i := 4) (q := 9) rfl rfl) ml_X9_97 ⟨(Nat.le_of_ble_eq_true rfl), (Nat.le_of_ble_eq_true rfl)⟩ ⟨(Nat.le_of_ble_eq_true rfl), (Nat.le_of_ble_eq_true rfl)⟩ (Nat.le_of_ble_eq_true rfl) <|
    V_if_ne (tat ok_X9_plan_0 (i := 5) (q := 12) rfl rfl) rfl (fun c1 => V_aload_n (tat ok_X9_plan_0 (i := 8) (q := 15) rfl rfl) 0 rfl rfl <|
    V_getZ (tat ok_X9_plan_0 (i := 9) (q := 18) rfl rfl) fk_X9_86 rfl <|
    V_if_ne (tat ok_X9_plan_0 (i := 10) (q := 21) rfl rfl) rfl (fun c2 => V_aload_n (tat ok_X9_plan_0 (i := 13) (q := 25) rfl rfl) 0 rfl rfl <|
    V_aload_n (tat ok_X9_plan_0 (i := 14) (q := 26) rfl rfl) 0 rfl rfl <|
    V_getL (tat ok_X9_plan_0 (i := 15) (q := 29) rfl rfl) fk_X9_80 rfl <|
    V_aload_n (tat ok_X9_plan_0 (i := 16) (q := 30) rfl rfl) 0 rfl rfl <|
    V_getL (tat ok_X9_plan_0 (i := 17) (q := 33) rfl rfl) fk_X9_83 rfl <|
    V_lxor (tat ok_X9_plan_0 (i := 18) (q := 34) rfl rfl) <|
    V_cv1 (ct_X9_findPlan I L ((L 33 2) ^^^ (L 33 3)) ) mo_X9_findPlan (tat ok_X9_plan_0 (i := 19) (q := 37) rfl rfl) ml_X9_253 rfl ⟨by decide, _, rfl, rfl⟩ ⟨(Nat.le_of_ble_eq_true rfl), (Nat.le_of_ble_eq_true rfl)⟩ ⟨(Nat.le_of_ble_eq_true rfl), (Nat.le_of_ble_eq_true rfl)⟩ (Nat.le_of_ble_eq_true rfl) <|
    V_if_eq (tat ok_X9_plan_0 (i := 20) (q := 40) rfl rfl) rfl (fun c3 => V_bipush (tat ok_X9_plan_0 (i := 25) (q := 50) rfl rfl) bp_m4 <|
    V_X9_plan_50  hr (jx (P := P) kk (Eq.trans (if_neg c1) (Eq.trans (if_neg c2) (if_pos c3))))) (fun c3 => V_aload_n (tat ok_X9_plan_0 (i := 21) (q := 41) rfl rfl) 0 rfl rfl <|
    V_iload_n (tat ok_X9_plan_0 (i := 22) (q := 42) rfl rfl) 1 rfl rfl <|
    V_cv1 (ct_X9_planTold (p2 (F_X9_findPlan I ((L 33 2) ^^^ (L 33 3)))) L a1 ) mo_X9_planTold (tat ok_X9_plan_0 (i := 23) (q := 45) rfl rfl) ml_X9_257 rfl ⟨by decide, _, rfl, rfl⟩ ⟨(Nat.le_of_ble_eq_true rfl), (Nat.le_of_ble_eq_true rfl)⟩ ⟨(Nat.le_of_ble_eq_true rfl), (Nat.le_of_ble_eq_true rfl)⟩ (Nat.le_of_ble_eq_true rfl) <|
    V_goto (tat ok_X9_plan_0 (i := 24) (q := 48) rfl rfl) rfl <|
    V_X9_plan_50  hr (jx (P := P) kk (Eq.trans (if_neg c1) (Eq.trans (if_neg c2) (if_neg c3)))))) (fun c2 => V_bipush (tat ok_X9_plan_0 (i := 11) (q := 23) rfl rfl) bp_m2 <|
    V_iret (tat ok_X9_plan_0 (i := 12) (q := 24) rfl rfl) _ rfl (nar_int _) (hr ((-2), I) (jx (P := P) kk (Eq.trans (if_neg c1) (if_pos c2)))) ⟨(Nat.le_of_ble_eq_true rfl), (Nat.le_of_ble_eq_true rfl)⟩)) (fun c1 => V_iconst (tat ok_X9_plan_0 (i := 6) (q := 13) rfl rfl) ic_m1 <|
    V_iret (tat ok_X9_plan_0 (i := 7) (q := 14) rfl rfl) _ rfl (nar_int _) (hr ((-1), I) (jx (P := P) kk (if_pos c1))) ⟨(Nat.le_of_ble_eq_true rfl), (Nat.le_of_ble_eq_true rfl)⟩)
theorem ct_X9_plan  (I : WI) (L : WL) (a1 : Int32)  : Ct x_X9_plan 5 [.ref 33, .int a1] ly0 I L R0 0 0 (some (.int (p1 (F_X9_plan I L a1))), ly0, (p2 (F_X9_plan I L a1)), L, R0) :=
  Ct_of_V mo_X9_plan.1 (Nat.le_of_ble_eq_true rfl) (V_X9_plan (P := fun x => x = (F_X9_plan I L a1))  (fun _ e => by rw [e]) rfl)
def F_X9_findNearest_110_2 (I : WI) (a1 : Int64) (a3 : Int32) (a4 : Int64) (a8 : Int32) (a7 : Int32) (s0 : Int32) (s1 : Int32) : Option (Int32 × Int32) :=
  some ((s1 + s0), a7)
theorem V_X9_findNearest_110_2  {I : WI} {L : WL} {a1 : Int64} {a3 : Int32} {a4 : Int64} {a8 : Int32} {a7 : Int32} {s0 : Int32} {s1 : Int32} {P : (Int32 × Int32) → Prop} {t : Tg} (hk : ∀ x : (Int32 × Int32), P x → V (zM x_X9_findNearest 3 0 0 t) 37 [(0, .ref 33), (1, .long a1), (3, .int a3), (4, .long a4), (6, .int (p1 x)), (7, .int (p2 x)), (8, .int (a8 + 1))] [] ly0 I L R0 0 0) (kk : oP P (F_X9_findNearest_110_2 I a1 a3 a4 a8 a7 s0 s1)) : V (zM x_X9_findNearest 3 0 0 t) 110 [(0, .ref 33), (1, .long a1), (3, .int a3), (4, .long a4), (7, .int a7), (8, .int a8)] [.int s0, .int s1] ly0 I L R0 0 0 :=
  V_iadd (tat ok_X9_findNearest_1 (i := 23) (q := 111) rfl rfl) <|
    V_istore (lv' := [(6, .int (s1 + s0)), (0, .ref 33), (1, .long a1), (3, .int a3), (4, .long a4), (7, .int a7), (8, .int a8)]) (tat ok_X9_findNearest_1 (i := 24) (q := 113) rfl rfl) (Nat.le_of_ble_eq_true rfl) rfl <|
    V_iinc (v := (a8 + 1)) (lv' := [(8, .int (a8 + 1)), (6, .int (s1 + s0)), (0, .ref 33), (1, .long a1), (3, .int a3), (4, .long a4), (7, .int a7)]) (tat ok_X9_findNearest_1 (i := 25) (q := 116) rfl rfl) 6 rfl (ia ic_1) (Nat.le_of_ble_eq_true rfl) rfl <|
    V_goto (tat ok_X9_findNearest_1 (i := 26) (q := 119) rfl rfl) rfl <|
    V_pick [2, 3, 4, 5, 1, 6, 0] rfl (hk ((s1 + s0), a7) (jx (P := oP P) kk rfl))
def F_X9_findNearest_82_2 (I : WI) (a1 : Int64) (a3 : Int32) (a4 : Int64) (a8 : Int32) (a6 : Int32) (a9 : Int32) (s0 : Int32) (s1 : Int32) : Option (Int32 × Int32) :=
  (if (2 * a9) ≤ (I 33 0) then (F_X9_findNearest_110_2 I a1 a3 a4 a8 (s1 ||| s0) a9 a6) else (F_X9_findNearest_110_2 I a1 a3 a4 a8 (s1 ||| s0) ((I 33 0) - a9) a6))
theorem V_X9_findNearest_82_2  {I : WI} {L : WL} {a1 : Int64} {a3 : Int32} {a4 : Int64} {a8 : Int32} {a6 : Int32} {a9 : Int32} {s0 : Int32} {s1 : Int32} {P : (Int32 × Int32) → Prop} {t : Tg} (hk : ∀ x : (Int32 × Int32), P x → V (zM x_X9_findNearest 3 0 0 t) 37 [(0, .ref 33), (1, .long a1), (3, .int a3), (4, .long a4), (6, .int (p1 x)), (7, .int (p2 x)), (8, .int (a8 + 1))] [] ly0 I L R0 0 0) (kk : oP P (F_X9_findNearest_82_2 I a1 a3 a4 a8 a6 a9 s0 s1)) : V (zM x_X9_findNearest 3 0 0 t) 82 [(0, .ref 33), (1, .long a1), (3, .int a3), (4, .long a4), (6, .int a6), (8, .int a8), (9, .int a9)] [.int s0, .int s1] ly0 I L R0 0 0 :=
  V_ior (tat ok_X9_findNearest_1 (i := 8) (q := 83) rfl rfl) <|
    V_istore (lv' := [(7, .int (s1 ||| s0)), (0, .ref 33), (1, .long a1), (3, .int a3), (4, .long a4), (6, .int a6), (8, .int a8), (9, .int a9)]) (tat ok_X9_findNearest_1 (i := 9) (q := 85) rfl rfl) (Nat.le_of_ble_eq_true rfl) rfl <|
    V_iload (tat ok_X9_findNearest_1 (i := 10) (q := 87) rfl rfl) 5 rfl <|
    V_iconst (tat ok_X9_findNearest_1 (i := 11) (q := 88) rfl rfl) ic_2 <|
    V_iload (tat ok_X9_findNearest_1 (i := 12) (q := 90) rfl rfl) 7 rfl <|
    V_imul (tat ok_X9_findNearest_1 (i := 13) (q := 91) rfl rfl) <|
    V_aload_n (tat ok_X9_findNearest_1 (i := 14) (q := 92) rfl rfl) 1 rfl rfl <|
    V_getI (tat ok_X9_findNearest_1 (i := 15) (q := 95) rfl rfl) fk_X9_74 rfl <|
    V_icmp_le (tat ok_X9_findNearest_1 (i := 16) (q := 98) rfl rfl) rfl (fun c3 => V_iload (tat ok_X9_findNearest_1 (i := 22) (q := 110) rfl rfl) 7 rfl <|
    V_pick [1, 2, 3, 4, 0, 6] rfl (V_X9_findNearest_110_2  hk (jx (P := oP P) kk (if_pos c3)))) (fun c3 => V_aload_n (tat ok_X9_findNearest_1 (i := 17) (q := 99) rfl rfl) 1 rfl rfl <|
    V_getI (tat ok_X9_findNearest_1 (i := 18) (q := 102) rfl rfl) fk_X9_74 rfl <|
    V_iload (tat ok_X9_findNearest_1 (i := 19) (q := 104) rfl rfl) 7 rfl <|
    V_isub (tat ok_X9_findNearest_1 (i := 20) (q := 105) rfl rfl) <|
    V_goto (tat ok_X9_findNearest_1 (i := 21) (q := 108) rfl rfl) rfl <|
    V_pick [1, 2, 3, 4, 0, 6] rfl (V_X9_findNearest_110_2  hk (jx (P := oP P) kk (if_neg c3))))
def F_X9_findNearest_46_2 (I : WI) (a1 : Int64) (a3 : Int32) (a4 : Int64) (a8 : Int32) (a6 : Int32) (a7 : Int32) : Option (Int32 × Int32) :=
  (if (2 * (F_X9_many (a4 &&& (F_X9_actSet I 1 a8)))) ≤ (I 33 0) then (F_X9_findNearest_82_2 I a1 a3 a4 a8 a6 (F_X9_many (a4 &&& (F_X9_actSet I 1 a8))) 0 a7) else (F_X9_findNearest_82_2 I a1 a3 a4 a8 a6 (F_X9_many (a4 &&& (F_X9_actSet I 1 a8))) (1 <<< (a8 &&& 31)) a7))
theorem V_X9_findNearest_46_2  {I : WI} {L : WL} {a1 : Int64} {a3 : Int32} {a4 : Int64} {a8 : Int32} {a6 : Int32} {a7 : Int32} {P : (Int32 × Int32) → Prop} {t : Tg} (hk : ∀ x : (Int32 × Int32), P x → V (zM x_X9_findNearest 3 0 0 t) 37 [(0, .ref 33), (1, .long a1), (3, .int a3), (4, .long a4), (6, .int (p1 x)), (7, .int (p2 x)), (8, .int (a8 + 1))] [] ly0 I L R0 0 0) (kk : oP P (F_X9_findNearest_46_2 I a1 a3 a4 a8 a6 a7)) : V (zM x_X9_findNearest 3 0 0 t) 46 [(0, .ref 33), (1, .long a1), (3, .int a3), (4, .long a4), (6, .int a6), (7, .int a7), (8, .int a8)] [] ly0 I L R0 0 0 :=
  V_lload (tat ok_X9_findNearest_0 (i := 28) (q := 48) rfl rfl) 3 rfl <|
    V_aload_n (tat ok_X9_findNearest_0 (i := 29) (q := 49) rfl rfl) 0 rfl rfl <|
    V_iconst (tat ok_X9_findNearest_0 (i := 30) (q := 50) rfl rfl) ic_1 <|
    V_iload (tat ok_X9_findNearest_0 (i := 31) (q := 52) rfl rfl) 6 rfl <|
    V_cv2 (ct_X9_actSet I L 1 a8 ) mo_X9_actSet (tat ok_X9_findNearest_0 (i := 32) (q := 55) rfl rfl) ml_X9_217 rfl ⟨by decide, _, rfl, rfl⟩ ⟨(Nat.le_of_ble_eq_true rfl), (Nat.le_of_ble_eq_true rfl)⟩ ⟨(Nat.le_of_ble_eq_true rfl), (Nat.le_of_ble_eq_true rfl)⟩ (Nat.le_of_ble_eq_true rfl) <|
    V_land (tat ok_X9_findNearest_0 (i := 33) (q := 56) rfl rfl) <|
    V_cs1 (ct_X9_many I L (a4 &&& (F_X9_actSet I 1 a8)) ) mo_X9_many (tat ok_X9_findNearest_0 (i := 34) (q := 59) rfl rfl) ml_X9_220 ⟨(Nat.le_of_ble_eq_true rfl), (Nat.le_of_ble_eq_true rfl)⟩ ⟨(Nat.le_of_ble_eq_true rfl), (Nat.le_of_ble_eq_true rfl)⟩ (Nat.le_of_ble_eq_true rfl) <|
    V_istore (lv' := [(9, .int (F_X9_many (a4 &&& (F_X9_actSet I 1 a8)))), (0, .ref 33), (1, .long a1), (3, .int a3), (4, .long a4), (6, .int a6), (7, .int a7), (8, .int a8)]) (tat ok_X9_findNearest_0 (i := 35) (q := 61) rfl rfl) (Nat.le_of_ble_eq_true rfl) rfl <|
    V_iload (tat ok_X9_findNearest_0 (i := 36) (q := 63) rfl rfl) 6 rfl <|
    V_iconst (tat ok_X9_findNearest_0 (i := 37) (q := 64) rfl rfl) ic_2 <|
    V_iload (tat ok_X9_findNearest_0 (i := 38) (q := 66) rfl rfl) 0 rfl <|
    V_imul (tat ok_X9_findNearest_0 (i := 39) (q := 67) rfl rfl) <|
    V_aload_n (tat ok_X9_findNearest_1 (i := 0) (q := 68) rfl rfl) 1 rfl rfl <|
    V_getI (tat ok_X9_findNearest_1 (i := 1) (q := 71) rfl rfl) fk_X9_74 rfl <|
    V_icmp_le (tat ok_X9_findNearest_1 (i := 2) (q := 74) rfl rfl) rfl (fun c2 => V_iconst (tat ok_X9_findNearest_1 (i := 7) (q := 82) rfl rfl) ic_0 <|
    V_pick [1, 2, 3, 4, 5, 7, 0] rfl (V_X9_findNearest_82_2  hk (jx (P := oP P) kk (if_pos c2)))) (fun c2 => V_iconst (tat ok_X9_findNearest_1 (i := 3) (q := 75) rfl rfl) ic_1 <|
    V_iload (tat ok_X9_findNearest_1 (i := 4) (q := 77) rfl rfl) 7 rfl <|
    V_ishl (tat ok_X9_findNearest_1 (i := 5) (q := 78) rfl rfl) <|
    V_goto (tat ok_X9_findNearest_1 (i := 6) (q := 81) rfl rfl) rfl <|
    V_pick [1, 2, 3, 4, 5, 7, 0] rfl (V_X9_findNearest_82_2  hk (jx (P := oP P) kk (if_neg c2))))
