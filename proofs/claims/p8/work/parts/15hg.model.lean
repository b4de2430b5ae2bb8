def F_X9_read_47_1 (I : WI) (L : WL) (a1 : Int32) (a2 : Int32) (a3 : Int32) (a4 : Int32) (a5 : Int32) (a6 : Int32) (a7 : Int32) (a8 : Int32) : Option (((Int32 × WI × WL) ⊕ (Int32 × Int32)) ⊕ (Int32 × Int32 × Int32)) :=
  (lpp (fun x => (F_X9_read_47_2 I L a1 a2 a3 a4 a6 a7 (p1 x) (p2 x))) 4294967296 (a5, a8)).bind (fun q => (F_X9_read_134_1 I L a1 a2 a3 a4 q a6 a7))
theorem V_X9_read_47_1  {I : WI} {L : WL} {a1 : Int32} {a2 : Int32} {a3 : Int32} {a4 : Int32} {a5 : Int32} {a6 : Int32} {a7 : Int32} {a8 : Int32} {P : (((Int32 × WI × WL) ⊕ (Int32 × Int32)) ⊕ (Int32 × Int32 × Int32)) → Prop} {t : Tg} (hb8 : bz a8 = a8) (hr : ∀ v, P (.inl (.inl v)) → t = (some (.int (p1 v)), ly0, (p1 (p2 v)), (p2 (p2 v)), R0)) (he : ∀ x : (Int32 × Int32), P (.inl (.inr x)) → V (zM x_X9_read 4 0 0 t) 190 [(0, .ref 33), (1, .int a1), (2, .int a2), (3, .int a3), (4, .int a4), (5, .int (p1 x)), (6, .int (p2 x))] [] ly0 I L R0 0 0) (hk : ∀ x : (Int32 × Int32 × Int32), P (.inr x) → V (zM x_X9_read 4 0 0 t) 32 [(0, .ref 33), (1, .int a1), (2, .int a2), (3, .int a3), (4, .int a4), (5, .int (p1 x)), (6, .int (p1 (p2 x))), (7, .int (p2 (p2 x)))] [] ly0 I L R0 0 0) (kk : oP P (F_X9_read_47_1 I L a1 a2 a3 a4 a5 a6 a7 a8)) : V (zM x_X9_read 4 0 0 t) 47 [(0, .ref 33), (1, .int a1), (2, .int a2), (3, .int a3), (4, .int a4), (5, .int a5), (6, .int a6), (7, .int a7), (8, .int a8)] [] ly0 I L R0 0 0 :=
  V_lpp (fun x => (F_X9_read_47_2 I L a1 a2 a3 a4 a6 a7 (p1 x) (p2 x))) (fun x => V (zM x_X9_read 4 0 0 t) 47 [(0, .ref 33), (1, .int a1), (2, .int a2), (3, .int a3), (4, .int a4), (5, .int (p1 x)), (6, .int a6), (7, .int a7), (8, .int (p2 x))] [] ly0 I L R0 0 0) (fun x => oP P ((F_X9_read_134_1 I L a1 a2 a3 a4 x a6 a7))) (s := (a5, a8)) (fun x e0 => V_X9_read_47_2 (P := Sum.elim (fun x => oP P ((F_X9_read_134_1 I L a1 a2 a3 a4 x a6 a7))) (fun x => V (zM x_X9_read 4 0 0 t) 47 [(0, .ref 33), (1, .int a1), (2, .int a2), (3, .int a3), (4, .int a4), (5, .int (p1 x)), (6, .int a6), (7, .int a7), (8, .int (p2 x))] [] ly0 I L R0 0 0))  (fun x e => V_X9_read_134_1  hr he hk e) (fun _ e => e) e0) (oP_bind (f := fun q => _) kk)
def F_X9_read_32_1 (I : WI) (L : WL) (a1 : Int32) (a2 : Int32) (a3 : Int32) (a4 : Int32) (a5 : Int32) (a6 : Int32) (a7 : Int32) : Option (((Int32 × WI × WL) ⊕ (Int32 × Int32)) ⊕ (Int32 × Int32 × Int32)) :=
  (if a4 ≤ a7 then some (.inl (.inr (a5, a6))) else (if a5 = 0 then (F_X9_read_47_1 I L a1 a2 a3 a4 a5 a6 a7 0) else some (.inl (.inr (a5, a6)))))
theorem V_X9_read_32_1  {I : WI} {L : WL} {a1 : Int32} {a2 : Int32} {a3 : Int32} {a4 : Int32} {a5 : Int32} {a6 : Int32} {a7 : Int32} {P : (((Int32 × WI × WL) ⊕ (Int32 × Int32)) ⊕ (Int32 × Int32 × Int32)) → Prop} {t : Tg} (hr : ∀ v, P (.inl (.inl v)) → t = (some (.int (p1 v)), ly0, (p1 (p2 v)), (p2 (p2 v)), R0)) (he : ∀ x : (Int32 × Int32), P (.inl (.inr x)) → V (zM x_X9_read 4 0 0 t) 190 [(0, .ref 33), (1, .int a1), (2, .int a2), (3, .int a3), (4, .int a4), (5, .int (p1 x)), (6, .int (p2 x))] [] ly0 I L R0 0 0) (hk : ∀ x : (Int32 × Int32 × Int32), P (.inr x) → V (zM x_X9_read 4 0 0 t) 32 [(0, .ref 33), (1, .int a1), (2, .int a2), (3, .int a3), (4, .int a4), (5, .int (p1 x)), (6, .int (p1 (p2 x))), (7, .int (p2 (p2 x)))] [] ly0 I L R0 0 0) (kk : oP P (F_X9_read_32_1 I L a1 a2 a3 a4 a5 a6 a7)) : V (zM x_X9_read 4 0 0 t) 32 [(0, .ref 33), (1, .int a1), (2, .int a2), (3, .int a3), (4, .int a4), (5, .int a5), (6, .int a6), (7, .int a7)] [] ly0 I L R0 0 0 :=
  V_iload (tat ok_X9_read_0 (i := 18) (q := 34) rfl rfl) 7 rfl <|
    V_iload (tat ok_X9_read_0 (i := 19) (q := 36) rfl rfl) 4 rfl <|
    V_icmp_ge (tat ok_X9_read_0 (i := 20) (q := 39) rfl rfl) rfl (fun c3 => V_pick [0, 1, 2, 3, 4, 5, 6] rfl (he (a5, a6) (jx (P := oP P) kk (if_pos c3)))) (fun c3 => V_iload (tat ok_X9_read_0 (i := 21) (q := 41) rfl rfl) 5 rfl <|
    V_if_ne (tat ok_X9_read_0 (i := 22) (q := 44) rfl rfl) rfl (fun c4 => V_pick [0, 1, 2, 3, 4, 5, 6] rfl (he (a5, a6) (jx (P := oP P) kk (Eq.trans (if_neg c3) (if_neg c4))))) (fun c4 => V_iconst (tat ok_X9_read_0 (i := 23) (q := 45) rfl rfl) ic_0 <|
    V_istore (lv' := [(8, .int 0), (0, .ref 33), (1, .int a1), (2, .int a2), (3, .int a3), (4, .int a4), (5, .int a5), (6, .int a6), (7, .int a7)]) (tat ok_X9_read_0 (i := 24) (q := 47) rfl rfl) (Nat.le_of_ble_eq_true rfl) rfl <|
    V_pick [1, 2, 3, 4, 5, 6, 7, 8, 0] rfl (V_X9_read_47_1 rfl hr he hk (jx (P := oP P) kk (Eq.trans (if_neg c3) (if_pos c4))))))
def F_X9_read_206_3 (I : WI) (L : WL) (a1 : Int32) (a2 : Int32) (a3 : Int32) (a4 : Int32) (a6 : Int32) (a7 : Int32) : Option WL :=
  (if (((40 * a1) + a3) + (2 * a7)) < 0 ∨ 160 ≤ Int32.toNatClampNeg (((40 * a1) + a3) + (2 * a7)) then none else (if ((((40 * a1) + a3) + (2 * a7)) + 1) < 0 ∨ 160 ≤ Int32.toNatClampNeg ((((40 * a1) + a3) + (2 * a7)) + 1) then none else some (u2 L 33 2 ((L 33 2) ^^^ (F_X9_actSet I (I 44 (Int32.toNatClampNeg (((40 * a1) + a3) + (2 * a7)))) (I 44 (Int32.toNatClampNeg ((((40 * a1) + a3) + (2 * a7)) + 1))))))))
theorem V_X9_read_206_3  {I : WI} {L : WL} {a1 : Int32} {a2 : Int32} {a3 : Int32} {a4 : Int32} {a6 : Int32} {a7 : Int32}  {P : WL → Prop} {t : Tg} (hk : ∀ x : WL, P x → V (zM x_X9_read 4 0 0 t) 199 [(0, .ref 33), (1, .int a1), (2, .int a2), (3, .int a3), (4, .int a4), (6, .int a6), (7, .int (a7 + 1))] [] ly0 I x R0 0 0) (kk : oP P (F_X9_read_206_3 I L a1 a2 a3 a4 a6 a7)) : V (zM x_X9_read 4 0 0 t) 206 [(0, .ref 33), (1, .int a1), (2, .int a2), (3, .int a3), (4, .int a4), (6, .int a6), (7, .int a7)] [] ly0 I L R0 0 0 :=
  V_bipush (tat ok_X9_read_2 (i := 35) (q := 208) rfl rfl) bp_40 <|
    V_iload_n (tat ok_X9_read_2 (i := 36) (q := 209) rfl rfl) 1 rfl rfl <|
    V_imul (tat ok_X9_read_2 (i := 37) (q := 210) rfl rfl) <|
    V_iload_n (tat ok_X9_read_2 (i := 38) (q := 211) rfl rfl) 3 rfl rfl <|
    V_iadd (tat ok_X9_read_2 (i := 39) (q := 212) rfl rfl) <|
    V_iconst (tat ok_X9_read_3 (i := 0) (q := 213) rfl rfl) ic_2 <|
    V_iload (tat ok_X9_read_3 (i := 1) (q := 215) rfl rfl) 6 rfl <|
    V_imul (tat ok_X9_read_3 (i := 2) (q := 216) rfl rfl) <|
    V_iadd (tat ok_X9_read_3 (i := 3) (q := 217) rfl rfl) <|
    V_istore (lv' := [(8, .int (((40 * a1) + a3) + (2 * a7))), (0, .ref 33), (1, .int a1), (2, .int a2), (3, .int a3), (4, .int a4), (6, .int a6), (7, .int a7)]) (tat ok_X9_read_3 (i := 4) (q := 219) rfl rfl) (Nat.le_of_ble_eq_true rfl) rfl <|
    V_aload_n (tat ok_X9_read_3 (i := 5) (q := 220) rfl rfl) 1 rfl rfl <|
    V_dup (tat ok_X9_read_3 (i := 6) (q := 221) rfl rfl) rfl <|
    V_getL (tat ok_X9_read_3 (i := 7) (q := 224) rfl rfl) fk_X9_80 rfl <|
    V_aload_n (tat ok_X9_read_3 (i := 8) (q := 225) rfl rfl) 1 rfl rfl <|
    V_aload_n (tat ok_X9_read_3 (i := 9) (q := 226) rfl rfl) 1 rfl rfl <|
    V_getR (tat ok_X9_read_3 (i := 10) (q := 229) rfl rfl) fk_X9_41 rfl rfl <|
    V_iload (tat ok_X9_read_3 (i := 11) (q := 231) rfl rfl) 0 rfl <|
    (if c19 : (((40 * a1) + a3) + (2 * a7)) < 0 ∨ 160 ≤ Int32.toNatClampNeg (((40 * a1) + a3) + (2 * a7)) then ((jx (P := oP P) kk (if_pos c19))).elim else V_iald (tat ok_X9_read_3 (i := 12) (q := 232) rfl rfl) rfl c19 <|
    V_aload_n (tat ok_X9_read_3 (i := 13) (q := 233) rfl rfl) 1 rfl rfl <|
    V_getR (tat ok_X9_read_3 (i := 14) (q := 236) rfl rfl) fk_X9_41 rfl rfl <|
    V_iload (tat ok_X9_read_3 (i := 15) (q := 238) rfl rfl) 0 rfl <|
    V_iconst (tat ok_X9_read_3 (i := 16) (q := 239) rfl rfl) ic_1 <|
    V_iadd (tat ok_X9_read_3 (i := 17) (q := 240) rfl rfl) <|
    (if c20 : ((((40 * a1) + a3) + (2 * a7)) + 1) < 0 ∨ 160 ≤ Int32.toNatClampNeg ((((40 * a1) + a3) + (2 * a7)) + 1) then ((jx (P := oP P) kk (Eq.trans (if_neg c19) (if_pos c20)))).elim else V_iald (tat ok_X9_read_3 (i := 18) (q := 241) rfl rfl) rfl c20 <|
    V_cv2 (ct_X9_actSet I L (I 44 (Int32.toNatClampNeg (((40 * a1) + a3) + (2 * a7)))) (I 44 (Int32.toNatClampNeg ((((40 * a1) + a3) + (2 * a7)) + 1))) ) mo_X9_actSet (tat ok_X9_read_3 (i := 19) (q := 244) rfl rfl) ml_X9_217 rfl ⟨by decide, _, rfl, rfl⟩ ⟨(Nat.le_of_ble_eq_true rfl), (Nat.le_of_ble_eq_true rfl)⟩ ⟨(Nat.le_of_ble_eq_true rfl), (Nat.le_of_ble_eq_true rfl)⟩ (Nat.le_of_ble_eq_true rfl) <|
    V_lxor (tat ok_X9_read_3 (i := 20) (q := 245) rfl rfl) <|
    V_putL (tat ok_X9_read_3 (i := 21) (q := 248) rfl rfl) fk_X9_80 rfl rfl <|
    V_iinc (v := (a7 + 1)) (lv' := [(7, .int (a7 + 1)), (8, .int (((40 * a1) + a3) + (2 * a7))), (0, .ref 33), (1, .int a1), (2, .int a2), (3, .int a3), (4, .int a4), (6, .int a6)]) (tat ok_X9_read_3 (i := 22) (q := 251) rfl rfl) 7 rfl (ia ic_1) (Nat.le_of_ble_eq_true rfl) rfl <|
    V_goto (tat ok_X9_read_3 (i := 23) (q := 254) rfl rfl) rfl <|
    V_pick [2, 3, 4, 5, 6, 7, 0] rfl (hk (u2 L 33 2 ((L 33 2) ^^^ (F_X9_actSet I (I 44 (Int32.toNatClampNeg (((40 * a1) + a3) + (2 * a7)))) (I 44 (Int32.toNatClampNeg ((((40 * a1) + a3) + (2 * a7)) + 1)))))) (jx (P := oP P) kk (Eq.trans (if_neg c19) (if_neg c20))))))
def F_X9_read_254 (I : WI) (L : WL) (a1 : Int32) (a2 : Int32) (a3 : Int32) (a4 : Int32) (a6 : Int32) : Option (Int32 × WI × WL) :=
  some (a6, I, L)
theorem V_X9_read_254  {I : WI} {L : WL} {a1 : Int32} {a2 : Int32} {a3 : Int32} {a4 : Int32} {a6 : Int32} {P : (Int32 × WI × WL) → Prop} {t : Tg} (hr : ∀ v, P v → t = (some (.int (p1 v)), ly0, (p1 (p2 v)), (p2 (p2 v)), R0)) (kk : oP P (F_X9_read_254 I L a1 a2 a3 a4 a6)) : V (zM x_X9_read 4 0 0 t) 254 [(0, .ref 33), (1, .int a1), (2, .int a2), (3, .int a3), (4, .int a4), (6, .int a6)] [] ly0 I L R0 0 0 :=
  V_iload (tat ok_X9_read_3 (i := 24) (q := 256) rfl rfl) 5 rfl <|
    V_iret (tat ok_X9_read_3 (i := 25) (q := 257) rfl rfl) _ rfl (nar_int _) (hr (a6, I, L) (jx (P := oP P) kk rfl)) ⟨(Nat.le_of_ble_eq_true rfl), (Nat.le_of_ble_eq_true rfl)⟩
def F_X9_read_199 (I : WI) (L : WL) (a1 : Int32) (a2 : Int32) (a3 : Int32) (a4 : Int32) (a6 : Int32) (a7 : Int32) : Option (Int32 × WI × WL) :=
  (frp0 (fun i x => (F_X9_read_206_3 I x a1 a2 a3 a4 a6 i)) a6 (fu a7 a6) a7 L).bind (fun q => (F_X9_read_254 I (p2 q) a1 a2 a3 a4 a6))
theorem V_X9_read_199  {I : WI} {L : WL} {a1 : Int32} {a2 : Int32} {a3 : Int32} {a4 : Int32} {a6 : Int32} {a7 : Int32} {P : (Int32 × WI × WL) → Prop} {t : Tg} (hb7 : bz a7 = a7) (hr : ∀ v, P v → t = (some (.int (p1 v)), ly0, (p1 (p2 v)), (p2 (p2 v)), R0)) (kk : oP P (F_X9_read_199 I L a1 a2 a3 a4 a6 a7)) : V (zM x_X9_read 4 0 0 t) 199 [(0, .ref 33), (1, .int a1), (2, .int a2), (3, .int a3), (4, .int a4), (6, .int a6), (7, .int a7)] [] ly0 I L R0 0 0 :=
  V_frp0 (fun i x => (F_X9_read_206_3 I x a1 a2 a3 a4 a6 i)) a6 (fun i x => V (zM x_X9_read 4 0 0 t) 199 [(0, .ref 33), (1, .int a1), (2, .int a2), (3, .int a3), (4, .int a4), (6, .int a6), (7, .int i)] [] ly0 I x R0 0 0) (fun i x => oP P ((F_X9_read_254 I x a1 a2 a3 a4 a6))) (c := a7) (s := L) (fun i x kx kb => V_iload (tat ok_X9_read_2 (i := 32) (q := 201) rfl rfl) 6 rfl <|
    V_iload (tat ok_X9_read_2 (i := 33) (q := 203) rfl rfl) 5 rfl <|
    V_icmp_ge (tat ok_X9_read_2 (i := 34) (q := 206) rfl rfl) rfl (fun c0 => V_pick [0, 1, 2, 3, 4, 5] rfl (V_X9_read_254  hr (kx c0))) (fun c0 => V_X9_read_206_3 (P := (fun x => (fun i x => V (zM x_X9_read 4 0 0 t) 199 [(0, .ref 33), (1, .int a1), (2, .int a2), (3, .int a3), (4, .int a4), (6, .int a6), (7, .int i)] [] ly0 I x R0 0 0) (i + 1) x))  (fun _ e => e) (kb c0))) (oP_bind (f := fun q => _) kk)
def F_X9_read_190 (I : WI) (L : WL) (a1 : Int32) (a2 : Int32) (a3 : Int32) (a4 : Int32) (a5 : Int32) (a6 : Int32) : Option (Int32 × WI × WL) :=
  (F_X9_read_199 (u2 I 33 46 a5) L a1 a2 a3 a4 a6 0)
theorem V_X9_read_190  {I : WI} {L : WL} {a1 : Int32} {a2 : Int32} {a3 : Int32} {a4 : Int32} {a5 : Int32} {a6 : Int32} {P : (Int32 × WI × WL) → Prop} {t : Tg} (hr : ∀ v, P v → t = (some (.int (p1 v)), ly0, (p1 (p2 v)), (p2 (p2 v)), R0)) (kk : oP P (F_X9_read_190 I L a1 a2 a3 a4 a5 a6)) : V (zM x_X9_read 4 0 0 t) 190 [(0, .ref 33), (1, .int a1), (2, .int a2), (3, .int a3), (4, .int a4), (5, .int a5), (6, .int a6)] [] ly0 I L R0 0 0 :=
  V_aload_n (tat ok_X9_read_2 (i := 27) (q := 191) rfl rfl) 0 rfl rfl <|
    V_iload (tat ok_X9_read_2 (i := 28) (q := 193) rfl rfl) 5 rfl <|
    V_putI (tat ok_X9_read_2 (i := 29) (q := 196) rfl rfl) fk_X9_338 rfl rfl <|
    V_iconst (tat ok_X9_read_2 (i := 30) (q := 197) rfl rfl) ic_0 <|
    V_istore (lv' := [(7, .int 0), (0, .ref 33), (1, .int a1), (2, .int a2), (3, .int a3), (4, .int a4), (5, .int a5), (6, .int a6)]) (tat ok_X9_read_2 (i := 31) (q := 199) rfl rfl) (Nat.le_of_ble_eq_true rfl) rfl <|
    V_pick [1, 2, 3, 4, 5, 7, 0] rfl (V_X9_read_199 rfl hr (jx (P := oP P) kk rfl))
def F_X9_read_32 (I : WI) (L : WL) (a1 : Int32) (a2 : Int32) (a3 : Int32) (a4 : Int32) (a5 : Int32) (a6 : Int32) (a7 : Int32) : Option (Int32 × WI × WL) :=
  (lpp (fun x => (F_X9_read_32_1 I L a1 a2 a3 a4 (p1 x) (p1 (p2 x)) (p2 (p2 x)))) 4294967296 (a5, a6, a7)).bind (Sum.elim (fun r => some (r)) (fun q => (F_X9_read_190 I L a1 a2 a3 a4 (p1 q) (p2 q))))
theorem V_X9_read_32  {I : WI} {L : WL} {a1 : Int32} {a2 : Int32} {a3 : Int32} {a4 : Int32} {a5 : Int32} {a6 : Int32} {a7 : Int32} {P : (Int32 × WI × WL) → Prop} {t : Tg} (hb5 : bz a5 = a5) (hb6 : bz a6 = a6) (hb7 : bz a7 = a7) (hr : ∀ v, P v → t = (some (.int (p1 v)), ly0, (p1 (p2 v)), (p2 (p2 v)), R0)) (kk : oP P (F_X9_read_32 I L a1 a2 a3 a4 a5 a6 a7)) : V (zM x_X9_read 4 0 0 t) 32 [(0, .ref 33), (1, .int a1), (2, .int a2), (3, .int a3), (4, .int a4), (5, .int a5), (6, .int a6), (7, .int a7)] [] ly0 I L R0 0 0 :=
  V_lpp (fun x => (F_X9_read_32_1 I L a1 a2 a3 a4 (p1 x) (p1 (p2 x)) (p2 (p2 x)))) (fun x => V (zM x_X9_read 4 0 0 t) 32 [(0, .ref 33), (1, .int a1), (2, .int a2), (3, .int a3), (4, .int a4), (5, .int (p1 x)), (6, .int (p1 (p2 x))), (7, .int (p2 (p2 x)))] [] ly0 I L R0 0 0) (Sum.elim (fun r => P (r)) (fun x => oP P ((F_X9_read_190 I L a1 a2 a3 a4 (p1 x) (p2 x))))) (s := (a5, a6, a7)) (fun x e0 => V_X9_read_32_1 (P := Sum.elim (Sum.elim (fun r => P (r)) (fun x => oP P ((F_X9_read_190 I L a1 a2 a3 a4 (p1 x) (p2 x))))) (fun x => V (zM x_X9_read 4 0 0 t) 32 [(0, .ref 33), (1, .int a1), (2, .int a2), (3, .int a3), (4, .int a4), (5, .int (p1 x)), (6, .int (p1 (p2 x))), (7, .int (p2 (p2 x)))] [] ly0 I L R0 0 0))  (fun v e => hr v e) (fun x e => V_X9_read_190  hr e) (fun _ e => e) e0) (oP_sum kk)
def F_X9_read (I : WI) (L : WL) (a1 : Int32) (a2 : Int32) (a3 : Int32) (a4 : Int32) : Option (Int32 × WI × WL) :=
  (if (F_X9_isSheet a1 a2) = 0 then (F_X9_read_21 I L a1 a2 a3 a4) else (if (F_X9_in (Int32.toInt64 a4) 0 20) = 0 then (F_X9_read_21 I L a1 a2 a3 a4) else (F_X9_read_32 I L a1 a2 a3 a4 0 0 0)))
theorem V_X9_read  {I : WI} {L : WL} {a1 : Int32} {a2 : Int32} {a3 : Int32} {a4 : Int32}  {P : (Int32 × WI × WL) → Prop} {t : Tg} (hr : ∀ v, P v → t = (some (.int (p1 v)), ly0, (p1 (p2 v)), (p2 (p2 v)), R0)) (kk : oP P (F_X9_read I L a1 a2 a3 a4)) : V (zM x_X9_read 4 0 0 t) 0 [(0, .ref 33), (1, .int a1), (2, .int a2), (3, .int a3), (4, .int a4)] [] ly0 I L R0 0 0 :=
  V_iload_n (tat ok_X9_read_0 (i := 0) (q := 1) rfl rfl) 1 rfl rfl <|
    V_iload_n (tat ok_X9_read_0 (i := 1) (q := 2) rfl rfl) 2 rfl rfl <|
    V_cs2 (ct_X9_isSheet I L a1 a2 ) mo_X9_isSheet (tat ok_X9_read_0 (i := 2) (q := 5) rfl rfl) ml_X9_333 ⟨(Nat.le_of_ble_eq_true rfl), (Nat.le_of_ble_eq_true rfl)⟩ ⟨(Nat.le_of_ble_eq_true rfl), (Nat.le_of_ble_eq_true rfl)⟩ (Nat.le_of_ble_eq_true rfl) <|
    V_if_eq (tat ok_X9_read_0 (i := 3) (q := 8) rfl rfl) rfl (fun c1 => V_X9_read_21  hr (jx (P := oP P) kk (if_pos c1))) (fun c1 => V_iload (tat ok_X9_read_0 (i := 4) (q := 10) rfl rfl) 4 rfl <|
    V_i2l (tat ok_X9_read_0 (i := 5) (q := 11) rfl rfl) <|
    V_lconst (v := 0) (tat ok_X9_read_0 (i := 6) (q := 12) rfl rfl) rfl <|
    V_ldc2 (tat ok_X9_read_0 (i := 7) (q := 15) rfl rfl) (gw_in kl_X9_336 rfl) <|
    V_cs3 (ct_X9_in I L (Int32.toInt64 a4) 0 20 ) mo_X9_in (tat ok_X9_read_0 (i := 8) (q := 18) rfl rfl) ml_X9_97 ⟨(Nat.le_of_ble_eq_true rfl), (Nat.le_of_ble_eq_true rfl)⟩ ⟨(Nat.le_of_ble_eq_true rfl), (Nat.le_of_ble_eq_true rfl)⟩ (Nat.le_of_ble_eq_true rfl) <|
    V_if_ne (tat ok_X9_read_0 (i := 9) (q := 21) rfl rfl) rfl (fun c2 => V_iconst (tat ok_X9_read_0 (i := 12) (q := 24) rfl rfl) ic_0 <|
    V_istore (lv' := [(5, .int 0), (0, .ref 33), (1, .int a1), (2, .int a2), (3, .int a3), (4, .int a4)]) (tat ok_X9_read_0 (i := 13) (q := 26) rfl rfl) (Nat.le_of_ble_eq_true rfl) rfl <|
    V_iconst (tat ok_X9_read_0 (i := 14) (q := 27) rfl rfl) ic_0 <|
    V_istore (lv' := [(6, .int 0), (5, .int 0), (0, .ref 33), (1, .int a1), (2, .int a2), (3, .int a3), (4, .int a4)]) (tat ok_X9_read_0 (i := 15) (q := 29) rfl rfl) (Nat.le_of_ble_eq_true rfl) rfl <|
    V_iconst (tat ok_X9_read_0 (i := 16) (q := 30) rfl rfl) ic_0 <|
    V_istore (lv' := [(7, .int 0), (6, .int 0), (5, .int 0), (0, .ref 33), (1, .int a1), (2, .int a2), (3, .int a3), (4, .int a4)]) (tat ok_X9_read_0 (i := 17) (q := 32) rfl rfl) (Nat.le_of_ble_eq_true rfl) rfl <|
    V_pick [3, 4, 5, 6, 7, 2, 1, 0] rfl (V_X9_read_32 rfl rfl rfl hr (jx (P := oP P) kk (Eq.trans (if_neg c1) (if_neg c2))))) (fun c2 => V_X9_read_21  hr (jx (P := oP P) kk (Eq.trans (if_neg c1) (if_pos c2)))))
