theorem ct_X9_cousin  (I : WI) (L : WL) (a1 : Int32)  {v : (Int32 × WI × WL)} (h : (F_X9_cousin I L a1) = some v) : Ct x_X9_cousin 5 [.ref 33, .int a1] ly0 I L R0 0 0 (some (.int (p1 v)), ly0, (p1 (p2 v)), (p2 (p2 v)), R0) :=
  Ct_of_V mo_X9_cousin.1 (Nat.le_of_ble_eq_true rfl) (V_X9_cousin (P := fun x => x = v)  (fun _ e => by rw [e]) (by rw [h]; exact rfl))
def F_X9_keep (I : WI) (L : WL) (a1 : Int32) : Option (Int32 × WI × WL) :=
  (Option.bind (F_X9_isImage a1) (fun v1 => (if v1 = 0 then some ((-1), I, L) else (Option.bind (F_X9_isKept I a1) (fun v3 => (if a1 < 0 ∨ 2 ≤ Int32.toNatClampNeg a1 then none else (if a1 < 0 ∨ 2 ≤ Int32.toNatClampNeg a1 then none else (if a1 < 0 ∨ 2 ≤ Int32.toNatClampNeg a1 then none else some ((F_X9_flag v3), (u2 (u2 I 36 (Int32.toNatClampNeg a1) (I 33 0)) 37 (Int32.toNatClampNeg a1) ((u2 I 36 (Int32.toNatClampNeg a1) (I 33 0)) 33 1)), (u2 L 35 (Int32.toNatClampNeg a1) (L 33 2)))))))))))
theorem V_X9_keep  {I : WI} {L : WL} {a1 : Int32}  {P : (Int32 × WI × WL) → Prop} {t : Tg} (hr : ∀ v, P v → t = (some (.int (p1 v)), ly0, (p1 (p2 v)), (p2 (p2 v)), R0)) (kk : oP P (F_X9_keep I L a1)) : V (zM x_X9_keep 3 0 0 t) 0 [(0, .ref 33), (1, .int a1)] [] ly0 I L R0 0 0 :=
  V_iload_n (tat ok_X9_keep_0 (i := 0) (q := 1) rfl rfl) 1 rfl rfl <|
    oP_case (jx (P := oP P) kk rfl) (fun v1 e1 _ => V_cs1 (ct_X9_isImage I L a1  e1) mo_X9_isImage (tat ok_X9_keep_0 (i := 1) (q := 4) rfl rfl) ml_X9_235 ⟨(Nat.le_of_ble_eq_true rfl), (Nat.le_of_ble_eq_true rfl)⟩ ⟨(Nat.le_of_ble_eq_true rfl), (Nat.le_of_ble_eq_true rfl)⟩ (Nat.le_of_ble_eq_true rfl) <|
    V_if_ne (tat ok_X9_keep_0 (i := 2) (q := 7) rfl rfl) rfl (fun c2 => V_aload_n (tat ok_X9_keep_0 (i := 5) (q := 10) rfl rfl) 0 rfl rfl <|
    V_iload_n (tat ok_X9_keep_0 (i := 6) (q := 11) rfl rfl) 1 rfl rfl <|
    oP_case (jx (P := oP P) kk (Eq.trans (ob e1) (if_neg c2))) (fun v3 e3 _ => V_cv1 (ct_X9_isKept I L a1  e3) mo_X9_isKept (tat ok_X9_keep_0 (i := 7) (q := 14) rfl rfl) ml_X9_239 rfl ⟨by decide, _, rfl, rfl⟩ ⟨(Nat.le_of_ble_eq_true rfl), (Nat.le_of_ble_eq_true rfl)⟩ ⟨(Nat.le_of_ble_eq_true rfl), (Nat.le_of_ble_eq_true rfl)⟩ (Nat.le_of_ble_eq_true rfl) <|
    V_cs1 (ct_X9_flag I L v3 ) mo_X9_flag (tat ok_X9_keep_0 (i := 8) (q := 17) rfl rfl) ml_X9_200 ⟨(Nat.le_of_ble_eq_true rfl), (Nat.le_of_ble_eq_true rfl)⟩ ⟨(Nat.le_of_ble_eq_true rfl), (Nat.le_of_ble_eq_true rfl)⟩ (Nat.le_of_ble_eq_true rfl) <|
    V_istore_n (lv' := [(2, .int (F_X9_flag v3)), (0, .ref 33), (1, .int a1)]) (tat ok_X9_keep_0 (i := 9) (q := 18) rfl rfl) rfl (Nat.le_of_ble_eq_true rfl) rfl <|
    V_aload_n (tat ok_X9_keep_0 (i := 10) (q := 19) rfl rfl) 1 rfl rfl <|
    V_getR (tat ok_X9_keep_0 (i := 11) (q := 22) rfl rfl) fk_X9_13 rfl rfl <|
    V_iload_n (tat ok_X9_keep_0 (i := 12) (q := 23) rfl rfl) 2 rfl rfl <|
    V_aload_n (tat ok_X9_keep_0 (i := 13) (q := 24) rfl rfl) 1 rfl rfl <|
    V_getL (tat ok_X9_keep_0 (i := 14) (q := 27) rfl rfl) fk_X9_80 rfl <|
    (if c4 : a1 < 0 ∨ 2 ≤ Int32.toNatClampNeg a1 then ((jx (P := oP P) kk (Eq.trans (ob e1) (Eq.trans (if_neg c2) (Eq.trans (ob e3) (if_pos c4)))))).elim else V_last (tat ok_X9_keep_0 (i := 15) (q := 28) rfl rfl) rfl c4 <|
    V_aload_n (tat ok_X9_keep_0 (i := 16) (q := 29) rfl rfl) 1 rfl rfl <|
    V_getR (tat ok_X9_keep_0 (i := 17) (q := 32) rfl rfl) fk_X9_17 rfl rfl <|
    V_iload_n (tat ok_X9_keep_0 (i := 18) (q := 33) rfl rfl) 2 rfl rfl <|
    V_aload_n (tat ok_X9_keep_0 (i := 19) (q := 34) rfl rfl) 1 rfl rfl <|
    V_getI (tat ok_X9_keep_0 (i := 20) (q := 37) rfl rfl) fk_X9_74 rfl <|
    (if c5 : a1 < 0 ∨ 2 ≤ Int32.toNatClampNeg a1 then ((jx (P := oP P) kk (Eq.trans (ob e1) (Eq.trans (if_neg c2) (Eq.trans (ob e3) (Eq.trans (if_neg c4) (if_pos c5))))))).elim else V_iast (tat ok_X9_keep_0 (i := 21) (q := 38) rfl rfl) rfl c5 <|
    V_aload_n (tat ok_X9_keep_0 (i := 22) (q := 39) rfl rfl) 1 rfl rfl <|
    V_getR (tat ok_X9_keep_0 (i := 23) (q := 42) rfl rfl) fk_X9_20 rfl rfl <|
    V_iload_n (tat ok_X9_keep_0 (i := 24) (q := 43) rfl rfl) 2 rfl rfl <|
    V_aload_n (tat ok_X9_keep_0 (i := 25) (q := 44) rfl rfl) 1 rfl rfl <|
    V_getI (tat ok_X9_keep_0 (i := 26) (q := 47) rfl rfl) fk_X9_77 rfl <|
    (if c6 : a1 < 0 ∨ 2 ≤ Int32.toNatClampNeg a1 then ((jx (P := oP P) kk (Eq.trans (ob e1) (Eq.trans (if_neg c2) (Eq.trans (ob e3) (Eq.trans (if_neg c4) (Eq.trans (if_neg c5) (if_pos c6)))))))).elim else V_iast (tat ok_X9_keep_0 (i := 27) (q := 48) rfl rfl) rfl c6 <|
    V_iload_n (tat ok_X9_keep_0 (i := 28) (q := 49) rfl rfl) 0 rfl rfl <|
    V_iret (tat ok_X9_keep_0 (i := 29) (q := 50) rfl rfl) _ rfl (nar_int _) (hr ((F_X9_flag v3), (u2 (u2 I 36 (Int32.toNatClampNeg a1) (I 33 0)) 37 (Int32.toNatClampNeg a1) ((u2 I 36 (Int32.toNatClampNeg a1) (I 33 0)) 33 1)), (u2 L 35 (Int32.toNatClampNeg a1) (L 33 2))) (jx (P := oP P) kk (Eq.trans (ob e1) (Eq.trans (if_neg c2) (Eq.trans (ob e3) (Eq.trans (if_neg c4) (Eq.trans (if_neg c5) (if_neg c6)))))))) ⟨(Nat.le_of_ble_eq_true rfl), (Nat.le_of_ble_eq_true rfl)⟩))))) (fun c2 => V_iconst (tat ok_X9_keep_0 (i := 3) (q := 8) rfl rfl) ic_m1 <|
    V_iret (tat ok_X9_keep_0 (i := 4) (q := 9) rfl rfl) _ rfl (nar_int _) (hr ((-1), I, L) (jx (P := oP P) kk (Eq.trans (ob e1) (if_pos c2)))) ⟨(Nat.le_of_ble_eq_true rfl), (Nat.le_of_ble_eq_true rfl)⟩))
theorem ct_X9_keep  (I : WI) (L : WL) (a1 : Int32)  {v : (Int32 × WI × WL)} (h : (F_X9_keep I L a1) = some v) : Ct x_X9_keep 3 [.ref 33, .int a1] ly0 I L R0 0 0 (some (.int (p1 v)), ly0, (p1 (p2 v)), (p2 (p2 v)), R0) :=
  Ct_of_V mo_X9_keep.1 (Nat.le_of_ble_eq_true rfl) (V_X9_keep (P := fun x => x = v)  (fun _ e => by rw [e]) (by rw [h]; exact rfl))
def F_X9_back_32 (I : WI) (L : WL) (a1 : Int32) : Option (Int32 × WI × WL) :=
  (if a1 < 0 ∨ 2 ≤ Int32.toNatClampNeg a1 then none else (if a1 < 0 ∨ 2 ≤ Int32.toNatClampNeg a1 then none else (if a1 < 0 ∨ 2 ≤ Int32.toNatClampNeg a1 then none else some ((F_X9_many ((u2 L 33 2 (L 35 (Int32.toNatClampNeg a1))) 33 2)), (u2 (u2 I 33 0 (I 36 (Int32.toNatClampNeg a1))) 33 1 ((u2 I 33 0 (I 36 (Int32.toNatClampNeg a1))) 37 (Int32.toNatClampNeg a1))), (u2 L 33 2 (L 35 (Int32.toNatClampNeg a1)))))))
theorem V_X9_back_32  {I : WI} {L : WL} {a1 : Int32}  {P : (Int32 × WI × WL) → Prop} {t : Tg} (hr : ∀ v, P v → t = (some (.int (p1 v)), ly0, (p1 (p2 v)), (p2 (p2 v)), R0)) (kk : oP P (F_X9_back_32 I L a1)) : V (zM x_X9_back 3 0 0 t) 32 [(0, .ref 33), (1, .int a1)] [] ly0 I L R0 0 0 :=
  V_aload_n (tat ok_X9_back_0 (i := 17) (q := 33) rfl rfl) 0 rfl rfl <|
    V_aload_n (tat ok_X9_back_0 (i := 18) (q := 34) rfl rfl) 0 rfl rfl <|
    V_getR (tat ok_X9_back_0 (i := 19) (q := 37) rfl rfl) fk_X9_13 rfl rfl <|
    V_iload_n (tat ok_X9_back_0 (i := 20) (q := 38) rfl rfl) 1 rfl rfl <|
    (if c7 : a1 < 0 ∨ 2 ≤ Int32.toNatClampNeg a1 then ((jx (P := oP P) kk (if_pos c7))).elim else V_lald (tat ok_X9_back_0 (i := 21) (q := 39) rfl rfl) rfl c7 <|
    V_putL (tat ok_X9_back_0 (i := 22) (q := 42) rfl rfl) fk_X9_80 rfl rfl <|
    V_aload_n (tat ok_X9_back_0 (i := 23) (q := 43) rfl rfl) 0 rfl rfl <|
    V_aload_n (tat ok_X9_back_0 (i := 24) (q := 44) rfl rfl) 0 rfl rfl <|
    V_getR (tat ok_X9_back_0 (i := 25) (q := 47) rfl rfl) fk_X9_17 rfl rfl <|
    V_iload_n (tat ok_X9_back_0 (i := 26) (q := 48) rfl rfl) 1 rfl rfl <|
    (if c8 : a1 < 0 ∨ 2 ≤ Int32.toNatClampNeg a1 then ((jx (P := oP P) kk (Eq.trans (if_neg c7) (if_pos c8)))).elim else V_iald (tat ok_X9_back_0 (i := 27) (q := 49) rfl rfl) rfl c8 <|
    V_putI (tat ok_X9_back_0 (i := 28) (q := 52) rfl rfl) fk_X9_74 rfl rfl <|
    V_aload_n (tat ok_X9_back_0 (i := 29) (q := 53) rfl rfl) 0 rfl rfl <|
    V_aload_n (tat ok_X9_back_0 (i := 30) (q := 54) rfl rfl) 0 rfl rfl <|
    V_getR (tat ok_X9_back_0 (i := 31) (q := 57) rfl rfl) fk_X9_20 rfl rfl <|
    V_iload_n (tat ok_X9_back_0 (i := 32) (q := 58) rfl rfl) 1 rfl rfl <|
    (if c9 : a1 < 0 ∨ 2 ≤ Int32.toNatClampNeg a1 then ((jx (P := oP P) kk (Eq.trans (if_neg c7) (Eq.trans (if_neg c8) (if_pos c9))))).elim else V_iald (tat ok_X9_back_0 (i := 33) (q := 59) rfl rfl) rfl c9 <|
    V_putI (tat ok_X9_back_0 (i := 34) (q := 62) rfl rfl) fk_X9_77 rfl rfl <|
    V_aload_n (tat ok_X9_back_0 (i := 35) (q := 63) rfl rfl) 0 rfl rfl <|
    V_getL (tat ok_X9_back_0 (i := 36) (q := 66) rfl rfl) fk_X9_80 rfl <|
    V_cs1 (ct_X9_many (u2 (u2 I 33 0 (I 36 (Int32.toNatClampNeg a1))) 33 1 ((u2 I 33 0 (I 36 (Int32.toNatClampNeg a1))) 37 (Int32.toNatClampNeg a1))) (u2 L 33 2 (L 35 (Int32.toNatClampNeg a1))) ((u2 L 33 2 (L 35 (Int32.toNatClampNeg a1))) 33 2) ) mo_X9_many (tat ok_X9_back_0 (i := 37) (q := 69) rfl rfl) ml_X9_220 ⟨(Nat.le_of_ble_eq_true rfl), (Nat.le_of_ble_eq_true rfl)⟩ ⟨(Nat.le_of_ble_eq_true rfl), (Nat.le_of_ble_eq_true rfl)⟩ (Nat.le_of_ble_eq_true rfl) <|
    V_iret (tat ok_X9_back_0 (i := 38) (q := 70) rfl rfl) _ rfl (nar_int _) (hr ((F_X9_many ((u2 L 33 2 (L 35 (Int32.toNatClampNeg a1))) 33 2)), (u2 (u2 I 33 0 (I 36 (Int32.toNatClampNeg a1))) 33 1 ((u2 I 33 0 (I 36 (Int32.toNatClampNeg a1))) 37 (Int32.toNatClampNeg a1))), (u2 L 33 2 (L 35 (Int32.toNatClampNeg a1)))) (jx (P := oP P) kk (Eq.trans (if_neg c7) (Eq.trans (if_neg c8) (if_neg c9))))) ⟨(Nat.le_of_ble_eq_true rfl), (Nat.le_of_ble_eq_true rfl)⟩)))
def F_X9_back (I : WI) (L : WL) (a1 : Int32) : Option (Int32 × WI × WL) :=
  (Option.bind (F_X9_isImage a1) (fun v1 => (if v1 = 0 then some ((-1), I, L) else (Option.bind (F_X9_isKept I a1) (fun v3 => (if v3 = 0 then some ((-2), I, L) else (Option.bind (F_X9_isOfSize I a1) (fun v5 => (if v5 = 0 then (F_X9_back_32 (F_X9_endsPattern I) L a1) else (F_X9_back_32 I L a1))))))))))
theorem V_X9_back  {I : WI} {L : WL} {a1 : Int32}  {P : (Int32 × WI × WL) → Prop} {t : Tg} (hr : ∀ v, P v → t = (some (.int (p1 v)), ly0, (p1 (p2 v)), (p2 (p2 v)), R0)) (kk : oP P (F_X9_back I L a1)) : V (zM x_X9_back 3 0 0 t) 0 [(0, .ref 33), (1, .int a1)] [] ly0 I L R0 0 0 :=
  V_iload_n (tat ok_X9_back_0 (i := 0) (q := 1) rfl rfl) 1 rfl rfl <|
    oP_case (jx (P := oP P) kk rfl) (fun v1 e1 _ => V_cs1 (ct_X9_isImage I L a1  e1) mo_X9_isImage (tat ok_X9_back_0 (i := 1) (q := 4) rfl rfl) ml_X9_235 ⟨(Nat.le_of_ble_eq_true rfl), (Nat.le_of_ble_eq_true rfl)⟩ ⟨(Nat.le_of_ble_eq_true rfl), (Nat.le_of_ble_eq_true rfl)⟩ (Nat.le_of_ble_eq_true rfl) <|
    V_if_ne (tat ok_X9_back_0 (i := 2) (q := 7) rfl rfl) rfl (fun c2 => V_aload_n (tat ok_X9_back_0 (i := 5) (q := 10) rfl rfl) 0 rfl rfl <|
    V_iload_n (tat ok_X9_back_0 (i := 6) (q := 11) rfl rfl) 1 rfl rfl <|
    oP_case (jx (P := oP P) kk (Eq.trans (ob e1) (if_neg c2))) (fun v3 e3 _ => V_cv1 (ct_X9_isKept I L a1  e3) mo_X9_isKept (tat ok_X9_back_0 (i := 7) (q := 14) rfl rfl) ml_X9_239 rfl ⟨by decide, _, rfl, rfl⟩ ⟨(Nat.le_of_ble_eq_true rfl), (Nat.le_of_ble_eq_true rfl)⟩ ⟨(Nat.le_of_ble_eq_true rfl), (Nat.le_of_ble_eq_true rfl)⟩ (Nat.le_of_ble_eq_true rfl) <|
    V_if_ne (tat ok_X9_back_0 (i := 8) (q := 17) rfl rfl) rfl (fun c4 => V_aload_n (tat ok_X9_back_0 (i := 11) (q := 21) rfl rfl) 0 rfl rfl <|
    V_iload_n (tat ok_X9_back_0 (i := 12) (q := 22) rfl rfl) 1 rfl rfl <|
    oP_case (jx (P := oP P) kk (Eq.trans (ob e1) (Eq.trans (if_neg c2) (Eq.trans (ob e3) (if_neg c4))))) (fun v5 e5 _ => V_cv1 (ct_X9_isOfSize I L a1  e5) mo_X9_isOfSize (tat ok_X9_back_0 (i := 13) (q := 25) rfl rfl) ml_X9_242 rfl ⟨by decide, _, rfl, rfl⟩ ⟨(Nat.le_of_ble_eq_true rfl), (Nat.le_of_ble_eq_true rfl)⟩ ⟨(Nat.le_of_ble_eq_true rfl), (Nat.le_of_ble_eq_true rfl)⟩ (Nat.le_of_ble_eq_true rfl) <|
    V_if_ne (tat ok_X9_back_0 (i := 14) (q := 28) rfl rfl) rfl (fun c6 => V_X9_back_32  hr (jx (P := oP P) kk (Eq.trans (ob e1) (Eq.trans (if_neg c2) (Eq.trans (ob e3) (Eq.trans (if_neg c4) (Eq.trans (ob e5) (if_neg c6)))))))) (fun c6 => V_aload_n (tat ok_X9_back_0 (i := 15) (q := 29) rfl rfl) 0 rfl rfl <|
    V_cv0v (ct_X9_endsPattern I L  ) mo_X9_endsPattern (tat ok_X9_back_0 (i := 16) (q := 32) rfl rfl) ml_X9_314 rfl ⟨by decide, _, rfl, rfl⟩ ⟨(Nat.le_of_ble_eq_true rfl), (Nat.le_of_ble_eq_true rfl)⟩ ⟨(Nat.le_of_ble_eq_true rfl), (Nat.le_of_ble_eq_true rfl)⟩ (Nat.le_of_ble_eq_true rfl) <|
    V_X9_back_32  hr (jx (P := oP P) kk (Eq.trans (ob e1) (Eq.trans (if_neg c2) (Eq.trans (ob e3) (Eq.trans (if_neg c4) (Eq.trans (ob e5) (if_pos c6)))))))))) (fun c4 => V_bipush (tat ok_X9_back_0 (i := 9) (q := 19) rfl rfl) bp_m2 <|
    V_iret (tat ok_X9_back_0 (i := 10) (q := 20) rfl rfl) _ rfl (nar_int _) (hr ((-2), I, L) (jx (P := oP P) kk (Eq.trans (ob e1) (Eq.trans (if_neg c2) (Eq.trans (ob e3) (if_pos c4)))))) ⟨(Nat.le_of_ble_eq_true rfl), (Nat.le_of_ble_eq_true rfl)⟩))) (fun c2 => V_iconst (tat ok_X9_back_0 (i := 3) (q := 8) rfl rfl) ic_m1 <|
    V_iret (tat ok_X9_back_0 (i := 4) (q := 9) rfl rfl) _ rfl (nar_int _) (hr ((-1), I, L) (jx (P := oP P) kk (Eq.trans (ob e1) (if_pos c2)))) ⟨(Nat.le_of_ble_eq_true rfl), (Nat.le_of_ble_eq_true rfl)⟩))
