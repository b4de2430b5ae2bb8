def F_X1_clear (I : WI) (o : Nat) : WI :=
  (u2 I o 0 0)
theorem V_X1_clear  {I : WI} {L : WL} {o : Nat}  {P : WI → Prop} {t : Tg} (ho : isX1 o) (hr : ∀ v, P v → t = (none, ly0, v, L, R0)) (kk : P (F_X1_clear I o)) : V (zM x_X1_clear 1 0 0 t) 0 [(0, .ref o)] [] ly0 I L R0 0 0 :=
  V_aload_n (tat ok_X1_clear_0 (i := 0) (q := 1) rfl rfl) 0 rfl rfl <|
    V_iconst (tat ok_X1_clear_0 (i := 1) (q := 2) rfl rfl) ic_0 <|
    V_putI (tat ok_X1_clear_0 (i := 2) (q := 5) rfl rfl) fk_X1_16 ho.1 rfl <|
    V_vret (tat ok_X1_clear_0 (i := 3) (q := 6) rfl rfl) rfl (hr (u2 I o 0 0) (jx (P := P) kk rfl)) ⟨(Nat.le_of_ble_eq_true rfl), (Nat.le_of_ble_eq_true rfl)⟩
theorem ct_X1_clear  (I : WI) (L : WL) (o : Nat) (ho : isX1 o) : Ct x_X1_clear 1 [.ref o] ly0 I L R0 0 0 (none, ly0, (F_X1_clear I o), L, R0) :=
  Ct_of_V mo_X1_clear.1 (Nat.le_of_ble_eq_true rfl) (V_X1_clear (P := fun x => x = (F_X1_clear I o)) ho (fun _ e => by rw [e]) rfl)
def F_X1_become_10_1 (I : WI) (o : Nat) (r1 : Nat) (a2 : Int32) : Option (WI ⊕ (Int32 × WI)) :=
  (if 12 ≤ a2 then some (.inl I) else (if 12 ≤ a2 then some (.inl I) else (if a2 < 0 ∨ 12 ≤ Int32.toNatClampNeg a2 then none else (if a2 < 0 ∨ 12 ≤ Int32.toNatClampNeg a2 then none else some (.inr ((a2 + 1), (u2 I (o + 1) (Int32.toNatClampNeg a2) (I (r1 + 1) (Int32.toNatClampNeg a2)))))))))
theorem V_X1_become_10_1  {I : WI} {L : WL} {o : Nat} {r1 : Nat} {a2 : Int32} {P : (WI ⊕ (Int32 × WI)) → Prop} {t : Tg} (ho : isX1 o) (hr1 : isX1 r1) (he : ∀ x : WI, P (.inl x) → V (zM x_X1_become 1 0 0 t) 46 [(0, .ref o), (1, .ref r1)] [] ly0 x L R0 0 0) (hk : ∀ x : (Int32 × WI), P (.inr x) → V (zM x_X1_become 1 0 0 t) 10 [(0, .ref o), (1, .ref r1), (2, .int (p1 x))] [] ly0 (p2 x) L R0 0 0) (kk : oP P (F_X1_become_10_1 I o r1 a2)) : V (zM x_X1_become 1 0 0 t) 10 [(0, .ref o), (1, .ref r1), (2, .int a2)] [] ly0 I L R0 0 0 :=
  V_iload_n (tat ok_X1_become_0 (i := 6) (q := 11) rfl rfl) 2 rfl rfl <|
    V_aload_n (tat ok_X1_become_0 (i := 7) (q := 12) rfl rfl) 0 rfl rfl <|
    V_getR (tat ok_X1_become_0 (i := 8) (q := 15) rfl rfl) fk_X1_9 ho.1 ho.2.1 <|
    V_alen (tat ok_X1_become_0 (i := 9) (q := 16) rfl rfl) ho.2.2.2.1 ⟨by decide, by decide⟩ nl_12 <|
    V_icmp_ge (tat ok_X1_become_0 (i := 10) (q := 19) rfl rfl) rfl (fun c1 => V_pick [0, 1] rfl (he I (jx (P := oP P) kk (if_pos c1)))) (fun c1 => V_iload_n (tat ok_X1_become_0 (i := 11) (q := 20) rfl rfl) 2 rfl rfl <|
    V_aload_n (tat ok_X1_become_0 (i := 12) (q := 21) rfl rfl) 1 rfl rfl <|
    V_getR (tat ok_X1_become_0 (i := 13) (q := 24) rfl rfl) fk_X1_9 hr1.1 hr1.2.1 <|
    V_alen (tat ok_X1_become_0 (i := 14) (q := 25) rfl rfl) hr1.2.2.2.1 ⟨by decide, by decide⟩ nl_12 <|
    V_icmp_ge (tat ok_X1_become_0 (i := 15) (q := 28) rfl rfl) rfl (fun c2 => V_pick [0, 1] rfl (he I (jx (P := oP P) kk (Eq.trans (if_neg c1) (if_pos c2))))) (fun c2 => V_aload_n (tat ok_X1_become_0 (i := 16) (q := 29) rfl rfl) 0 rfl rfl <|
    V_getR (tat ok_X1_become_0 (i := 17) (q := 32) rfl rfl) fk_X1_9 ho.1 ho.2.1 <|
    V_iload_n (tat ok_X1_become_0 (i := 18) (q := 33) rfl rfl) 2 rfl rfl <|
    V_aload_n (tat ok_X1_become_0 (i := 19) (q := 34) rfl rfl) 1 rfl rfl <|
    V_getR (tat ok_X1_become_0 (i := 20) (q := 37) rfl rfl) fk_X1_9 hr1.1 hr1.2.1 <|
    V_iload_n (tat ok_X1_become_0 (i := 21) (q := 38) rfl rfl) 2 rfl rfl <|
    (if c3 : a2 < 0 ∨ 12 ≤ Int32.toNatClampNeg a2 then ((jx (P := oP P) kk (Eq.trans (if_neg c1) (Eq.trans (if_neg c2) (if_pos c3))))).elim else V_iald (tat ok_X1_become_0 (i := 22) (q := 39) rfl rfl) hr1.2.2.2.1 c3 <|
    (if c4 : a2 < 0 ∨ 12 ≤ Int32.toNatClampNeg a2 then ((jx (P := oP P) kk (Eq.trans (if_neg c1) (Eq.trans (if_neg c2) (Eq.trans (if_neg c3) (if_pos c4)))))).elim else V_iast (tat ok_X1_become_0 (i := 23) (q := 40) rfl rfl) ho.2.2.2.1 c4 <|
    V_iinc (v := (a2 + 1)) (lv' := [(2, .int (a2 + 1)), (0, .ref o), (1, .ref r1)]) (tat ok_X1_become_0 (i := 24) (q := 43) rfl rfl) 2 rfl (ia ic_1) (Nat.le_of_ble_eq_true rfl) rfl <|
    V_goto (tat ok_X1_become_0 (i := 25) (q := 46) rfl rfl) rfl <|
    V_pick [1, 2, 0] rfl (hk ((a2 + 1), (u2 I (o + 1) (Int32.toNatClampNeg a2) (I (r1 + 1) (Int32.toNatClampNeg a2)))) (jx (P := oP P) kk (Eq.trans (if_neg c1) (Eq.trans (if_neg c2) (Eq.trans (if_neg c3) (if_neg c4))))))))))
def F_X1_become_48_2 (I : WI) (o : Nat) (r1 : Nat) (a2 : Int32) : Option (WI ⊕ (Int32 × WI)) :=
  (if 36 ≤ a2 then some (.inl I) else (if 36 ≤ a2 then some (.inl I) else (if a2 < 0 ∨ 36 ≤ Int32.toNatClampNeg a2 then none else (if a2 < 0 ∨ 36 ≤ Int32.toNatClampNeg a2 then none else some (.inr ((a2 + 1), (u2 I (o + 2) (Int32.toNatClampNeg a2) (I (r1 + 2) (Int32.toNatClampNeg a2)))))))))
theorem V_X1_become_48_2  {I : WI} {L : WL} {o : Nat} {r1 : Nat} {a2 : Int32} {P : (WI ⊕ (Int32 × WI)) → Prop} {t : Tg} (ho : isX1 o) (hr1 : isX1 r1) (he : ∀ x : WI, P (.inl x) → V (zM x_X1_become 1 0 0 t) 84 [(0, .ref o), (1, .ref r1)] [] ly0 x L R0 0 0) (hk : ∀ x : (Int32 × WI), P (.inr x) → V (zM x_X1_become 1 0 0 t) 48 [(0, .ref o), (1, .ref r1), (2, .int (p1 x))] [] ly0 (p2 x) L R0 0 0) (kk : oP P (F_X1_become_48_2 I o r1 a2)) : V (zM x_X1_become 1 0 0 t) 48 [(0, .ref o), (1, .ref r1), (2, .int a2)] [] ly0 I L R0 0 0 :=
  V_iload_n (tat ok_X1_become_0 (i := 28) (q := 49) rfl rfl) 2 rfl rfl <|
    V_aload_n (tat ok_X1_become_0 (i := 29) (q := 50) rfl rfl) 0 rfl rfl <|
    V_getR (tat ok_X1_become_0 (i := 30) (q := 53) rfl rfl) fk_X1_13 ho.1 ho.2.2.1 <|
    V_alen (tat ok_X1_become_0 (i := 31) (q := 54) rfl rfl) ho.2.2.2.2 ⟨by decide, by decide⟩ nl_36 <|
    V_icmp_ge (tat ok_X1_become_0 (i := 32) (q := 57) rfl rfl) rfl (fun c5 => V_pick [0, 1] rfl (he I (jx (P := oP P) kk (if_pos c5)))) (fun c5 => V_iload_n (tat ok_X1_become_0 (i := 33) (q := 58) rfl rfl) 2 rfl rfl <|
    V_aload_n (tat ok_X1_become_0 (i := 34) (q := 59) rfl rfl) 1 rfl rfl <|
    V_getR (tat ok_X1_become_0 (i := 35) (q := 62) rfl rfl) fk_X1_13 hr1.1 hr1.2.2.1 <|
    V_alen (tat ok_X1_become_0 (i := 36) (q := 63) rfl rfl) hr1.2.2.2.2 ⟨by decide, by decide⟩ nl_36 <|
    V_icmp_ge (tat ok_X1_become_0 (i := 37) (q := 66) rfl rfl) rfl (fun c6 => V_pick [0, 1] rfl (he I (jx (P := oP P) kk (Eq.trans (if_neg c5) (if_pos c6))))) (fun c6 => V_aload_n (tat ok_X1_become_0 (i := 38) (q := 67) rfl rfl) 0 rfl rfl <|
    V_getR (tat ok_X1_become_0 (i := 39) (q := 70) rfl rfl) fk_X1_13 ho.1 ho.2.2.1 <|
    V_iload_n (tat ok_X1_become_1 (i := 0) (q := 71) rfl rfl) 2 rfl rfl <|
    V_aload_n (tat ok_X1_become_1 (i := 1) (q := 72) rfl rfl) 1 rfl rfl <|
    V_getR (tat ok_X1_become_1 (i := 2) (q := 75) rfl rfl) fk_X1_13 hr1.1 hr1.2.2.1 <|
    V_iload_n (tat ok_X1_become_1 (i := 3) (q := 76) rfl rfl) 2 rfl rfl <|
    (if c7 : a2 < 0 ∨ 36 ≤ Int32.toNatClampNeg a2 then ((jx (P := oP P) kk (Eq.trans (if_neg c5) (Eq.trans (if_neg c6) (if_pos c7))))).elim else V_iald (tat ok_X1_become_1 (i := 4) (q := 77) rfl rfl) hr1.2.2.2.2 c7 <|
    (if c8 : a2 < 0 ∨ 36 ≤ Int32.toNatClampNeg a2 then ((jx (P := oP P) kk (Eq.trans (if_neg c5) (Eq.trans (if_neg c6) (Eq.trans (if_neg c7) (if_pos c8)))))).elim else V_iast (tat ok_X1_become_1 (i := 5) (q := 78) rfl rfl) ho.2.2.2.2 c8 <|
    V_iinc (v := (a2 + 1)) (lv' := [(2, .int (a2 + 1)), (0, .ref o), (1, .ref r1)]) (tat ok_X1_become_1 (i := 6) (q := 81) rfl rfl) 2 rfl (ia ic_1) (Nat.le_of_ble_eq_true rfl) rfl <|
    V_goto (tat ok_X1_become_1 (i := 7) (q := 84) rfl rfl) rfl <|
    V_pick [1, 2, 0] rfl (hk ((a2 + 1), (u2 I (o + 2) (Int32.toNatClampNeg a2) (I (r1 + 2) (Int32.toNatClampNeg a2)))) (jx (P := oP P) kk (Eq.trans (if_neg c5) (Eq.trans (if_neg c6) (Eq.trans (if_neg c7) (if_neg c8))))))))))
def F_X1_become_84 (I : WI) (o : Nat) (r1 : Nat) : Option WI :=
  some I
theorem V_X1_become_84  {I : WI} {L : WL} {o : Nat} {r1 : Nat}  {P : WI → Prop} {t : Tg} (ho : isX1 o) (hr1 : isX1 r1) (hr : ∀ v, P v → t = (none, ly0, v, L, R0)) (kk : oP P (F_X1_become_84 I o r1)) : V (zM x_X1_become 1 0 0 t) 84 [(0, .ref o), (1, .ref r1)] [] ly0 I L R0 0 0 :=
  V_vret (tat ok_X1_become_1 (i := 8) (q := 85) rfl rfl) rfl (hr I (jx (P := oP P) kk rfl)) ⟨(Nat.le_of_ble_eq_true rfl), (Nat.le_of_ble_eq_true rfl)⟩
def F_X1_become_48 (I : WI) (o : Nat) (r1 : Nat) (a2 : Int32) : Option WI :=
  (lpp (fun x => (F_X1_become_48_2 (p2 x) o r1 (p1 x))) 4294967296 (a2, I)).bind (fun q => (F_X1_become_84 q o r1))
theorem V_X1_become_48  {I : WI} {L : WL} {o : Nat} {r1 : Nat} {a2 : Int32} {P : WI → Prop} {t : Tg} (ho : isX1 o) (hr1 : isX1 r1) (hb2 : bz a2 = a2) (hr : ∀ v, P v → t = (none, ly0, v, L, R0)) (kk : oP P (F_X1_become_48 I o r1 a2)) : V (zM x_X1_become 1 0 0 t) 48 [(0, .ref o), (1, .ref r1), (2, .int a2)] [] ly0 I L R0 0 0 :=
  V_lpp (fun x => (F_X1_become_48_2 (p2 x) o r1 (p1 x))) (fun x => V (zM x_X1_become 1 0 0 t) 48 [(0, .ref o), (1, .ref r1), (2, .int (p1 x))] [] ly0 (p2 x) L R0 0 0) (fun x => oP P ((F_X1_become_84 x o r1))) (s := (a2, I)) (fun x e0 => V_X1_become_48_2 (P := Sum.elim (fun x => oP P ((F_X1_become_84 x o r1))) (fun x => V (zM x_X1_become 1 0 0 t) 48 [(0, .ref o), (1, .ref r1), (2, .int (p1 x))] [] ly0 (p2 x) L R0 0 0)) ho hr1 (fun x e => V_X1_become_84 ho hr1 hr e) (fun _ e => e) e0) (oP_bind (f := fun q => _) kk)
def F_X1_become_46 (I : WI) (o : Nat) (r1 : Nat) : Option WI :=
  (F_X1_become_48 I o r1 0)
theorem V_X1_become_46  {I : WI} {L : WL} {o : Nat} {r1 : Nat}  {P : WI → Prop} {t : Tg} (ho : isX1 o) (hr1 : isX1 r1) (hr : ∀ v, P v → t = (none, ly0, v, L, R0)) (kk : oP P (F_X1_become_46 I o r1)) : V (zM x_X1_become 1 0 0 t) 46 [(0, .ref o), (1, .ref r1)] [] ly0 I L R0 0 0 :=
  V_iconst (tat ok_X1_become_0 (i := 26) (q := 47) rfl rfl) ic_0 <|
    V_istore_n (lv' := [(2, .int 0), (0, .ref o), (1, .ref r1)]) (tat ok_X1_become_0 (i := 27) (q := 48) rfl rfl) rfl (Nat.le_of_ble_eq_true rfl) rfl <|
    V_pick [1, 2, 0] rfl (V_X1_become_48 ho hr1 rfl hr (jx (P := oP P) kk rfl))
def F_X1_become_10 (I : WI) (o : Nat) (r1 : Nat) (a2 : Int32) : Option WI :=
  (lpp (fun x => (F_X1_become_10_1 (p2 x) o r1 (p1 x))) 4294967296 (a2, I)).bind (fun q => (F_X1_become_46 q o r1))
theorem V_X1_become_10  {I : WI} {L : WL} {o : Nat} {r1 : Nat} {a2 : Int32} {P : WI → Prop} {t : Tg} (ho : isX1 o) (hr1 : isX1 r1) (hb2 : bz a2 = a2) (hr : ∀ v, P v → t = (none, ly0, v, L, R0)) (kk : oP P (F_X1_become_10 I o r1 a2)) : V (zM x_X1_become 1 0 0 t) 10 [(0, .ref o), (1, .ref r1), (2, .int a2)] [] ly0 I L R0 0 0 :=
  V_lpp (fun x => (F_X1_become_10_1 (p2 x) o r1 (p1 x))) (fun x => V (zM x_X1_become 1 0 0 t) 10 [(0, .ref o), (1, .ref r1), (2, .int (p1 x))] [] ly0 (p2 x) L R0 0 0) (fun x => oP P ((F_X1_become_46 x o r1))) (s := (a2, I)) (fun x e0 => V_X1_become_10_1 (P := Sum.elim (fun x => oP P ((F_X1_become_46 x o r1))) (fun x => V (zM x_X1_become 1 0 0 t) 10 [(0, .ref o), (1, .ref r1), (2, .int (p1 x))] [] ly0 (p2 x) L R0 0 0)) ho hr1 (fun x e => V_X1_become_46 ho hr1 hr e) (fun _ e => e) e0) (oP_bind (f := fun q => _) kk)
def F_X1_become (I : WI) (o : Nat) (r1 : Nat) : Option WI :=
  (F_X1_become_10 (u2 I o 0 (I r1 0)) o r1 0)
theorem V_X1_become  {I : WI} {L : WL} {o : Nat} {r1 : Nat}  {P : WI → Prop} {t : Tg} (ho : isX1 o) (hr1 : isX1 r1) (hr : ∀ v, P v → t = (none, ly0, v, L, R0)) (kk : oP P (F_X1_become I o r1)) : V (zM x_X1_become 1 0 0 t) 0 [(0, .ref o), (1, .ref r1)] [] ly0 I L R0 0 0 :=
  V_aload_n (tat ok_X1_become_0 (i := 0) (q := 1) rfl rfl) 0 rfl rfl <|
    V_aload_n (tat ok_X1_become_0 (i := 1) (q := 2) rfl rfl) 1 rfl rfl <|
    V_getI (tat ok_X1_become_0 (i := 2) (q := 5) rfl rfl) fk_X1_16 hr1.1 <|
    V_putI (tat ok_X1_become_0 (i := 3) (q := 8) rfl rfl) fk_X1_16 ho.1 rfl <|
    V_iconst (tat ok_X1_become_0 (i := 4) (q := 9) rfl rfl) ic_0 <|
    V_istore_n (lv' := [(2, .int 0), (0, .ref o), (1, .ref r1)]) (tat ok_X1_become_0 (i := 5) (q := 10) rfl rfl) rfl (Nat.le_of_ble_eq_true rfl) rfl <|
    V_pick [1, 2, 0] rfl (V_X1_become_10 ho hr1 rfl hr (jx (P := oP P) kk rfl))
theorem ct_X1_become  (I : WI) (L : WL) (o : Nat) (r1 : Nat) (ho : isX1 o) (hr1 : isX1 r1) {v : WI} (h : (F_X1_become I o r1) = some v) : Ct x_X1_become 1 [.ref o, .ref r1] ly0 I L R0 0 0 (none, ly0, v, L, R0) :=
  Ct_of_V mo_X1_become.1 (Nat.le_of_ble_eq_true rfl) (V_X1_become (P := fun x => x = v) ho hr1 (fun _ e => by rw [e]) (by rw [h]; exact rfl))
def F_X1_begin_39 (I : WI) (o : Nat) : WI :=
  I
theorem V_X1_begin_39  {I : WI} {L : WL} {o : Nat}  {P : WI → Prop} {t : Tg} (ho : isX1 o) (hr : ∀ v, P v → t = (none, ly0, v, L, R0)) (kk : P (F_X1_begin_39 I o)) : V (zM x_X1_begin 1 0 0 t) 39 [(0, .ref o)] [] ly0 I L R0 0 0 :=
  V_vret (tat ok_X1_begin_0 (i := 21) (q := 40) rfl rfl) rfl (hr I (jx (P := P) kk rfl)) ⟨(Nat.le_of_ble_eq_true rfl), (Nat.le_of_ble_eq_true rfl)⟩
def F_X1_begin (I : WI) (o : Nat) : WI :=
  (if (I o 0) < 0 then (F_X1_begin_39 I o) else (if 12 ≤ (I o 0) then (F_X1_begin_39 I o) else (F_X1_begin_39 (u2 (u2 I (o + 1) (Int32.toNatClampNeg (I o 0)) 0) o 0 (((u2 I (o + 1) (Int32.toNatClampNeg (I o 0)) 0) o 0) + 1)) o)))
theorem V_X1_begin  {I : WI} {L : WL} {o : Nat}  {P : WI → Prop} {t : Tg} (ho : isX1 o) (hr : ∀ v, P v → t = (none, ly0, v, L, R0)) (kk : P (F_X1_begin I o)) : V (zM x_X1_begin 1 0 0 t) 0 [(0, .ref o)] [] ly0 I L R0 0 0 :=
  V_aload_n (tat ok_X1_begin_0 (i := 0) (q := 1) rfl rfl) 0 rfl rfl <|
    V_getI (tat ok_X1_begin_0 (i := 1) (q := 4) rfl rfl) fk_X1_16 ho.1 <|
    V_if_lt (tat ok_X1_begin_0 (i := 2) (q := 7) rfl rfl) rfl (fun c1 => V_X1_begin_39 ho hr (jx (P := P) kk (if_pos c1))) (fun c1 => V_aload_n (tat ok_X1_begin_0 (i := 3) (q := 8) rfl rfl) 0 rfl rfl <|
    V_getI (tat ok_X1_begin_0 (i := 4) (q := 11) rfl rfl) fk_X1_16 ho.1 <|
    V_aload_n (tat ok_X1_begin_0 (i := 5) (q := 12) rfl rfl) 0 rfl rfl <|
    V_getR (tat ok_X1_begin_0 (i := 6) (q := 15) rfl rfl) fk_X1_9 ho.1 ho.2.1 <|
    V_alen (tat ok_X1_begin_0 (i := 7) (q := 16) rfl rfl) ho.2.2.2.1 ⟨by decide, by decide⟩ nl_12 <|
    V_icmp_ge (tat ok_X1_begin_0 (i := 8) (q := 19) rfl rfl) rfl (fun c2 => V_X1_begin_39 ho hr (jx (P := P) kk (Eq.trans (if_neg c1) (if_pos c2)))) (fun c2 => V_aload_n (tat ok_X1_begin_0 (i := 9) (q := 20) rfl rfl) 0 rfl rfl <|
    V_getR (tat ok_X1_begin_0 (i := 10) (q := 23) rfl rfl) fk_X1_9 ho.1 ho.2.1 <|
    V_aload_n (tat ok_X1_begin_0 (i := 11) (q := 24) rfl rfl) 0 rfl rfl <|
    V_getI (tat ok_X1_begin_0 (i := 12) (q := 27) rfl rfl) fk_X1_16 ho.1 <|
    V_iconst (tat ok_X1_begin_0 (i := 13) (q := 28) rfl rfl) ic_0 <|
    V_iast (tat ok_X1_begin_0 (i := 14) (q := 29) rfl rfl) ho.2.2.2.1 (vpin ti_12 c1 c2) <|
    V_aload_n (tat ok_X1_begin_0 (i := 15) (q := 30) rfl rfl) 0 rfl rfl <|
    V_dup (tat ok_X1_begin_0 (i := 16) (q := 31) rfl rfl) rfl <|
    V_getI (tat ok_X1_begin_0 (i := 17) (q := 34) rfl rfl) fk_X1_16 ho.1 <|
    V_iconst (tat ok_X1_begin_0 (i := 18) (q := 35) rfl rfl) ic_1 <|
    V_iadd (tat ok_X1_begin_0 (i := 19) (q := 36) rfl rfl) <|
    V_putI (tat ok_X1_begin_0 (i := 20) (q := 39) rfl rfl) fk_X1_16 ho.1 rfl <|
    V_X1_begin_39 ho hr (jx (P := P) kk (Eq.trans (if_neg c1) (if_neg c2)))))
theorem ct_X1_begin  (I : WI) (L : WL) (o : Nat) (ho : isX1 o) : Ct x_X1_begin 1 [.ref o] ly0 I L R0 0 0 (none, ly0, (F_X1_begin I o), L, R0) :=
  Ct_of_V mo_X1_begin.1 (Nat.le_of_ble_eq_true rfl) (V_X1_begin (P := fun x => x = (F_X1_begin I o)) ho (fun _ e => by rw [e]) rfl)
def F_X1_actsOf_31 (I : WI) (o : Nat) (a1 : Int32) (s0 : Int32) : Int32 :=
  s0
theorem V_X1_actsOf_31  {I : WI} {L : WL} {o : Nat} {a1 : Int32} {s0 : Int32} {P : Int32 → Prop} {t : Tg} (ho : isX1 o) (hr : ∀ v, P v → t = (some (.int v), ly0, I, L, R0)) (kk : P (F_X1_actsOf_31 I o a1 s0)) : V (zM x_X1_actsOf 1 0 0 t) 31 [(0, .ref o), (1, .int a1)] [.int s0] ly0 I L R0 0 0 :=
  V_iret (tat ok_X1_actsOf_0 (i := 17) (q := 32) rfl rfl) _ rfl (nar_int _) (hr s0 (jx (P := P) kk rfl)) ⟨(Nat.le_of_ble_eq_true rfl), (Nat.le_of_ble_eq_true rfl)⟩
def F_X1_actsOf_30 (I : WI) (o : Nat) (a1 : Int32) : Int32 :=
  (F_X1_actsOf_31 I o a1 0)
theorem V_X1_actsOf_30  {I : WI} {L : WL} {o : Nat} {a1 : Int32}  {P : Int32 → Prop} {t : Tg} (ho : isX1 o) (hr : ∀ v, P v → t = (some (.int v), ly0, I, L, R0)) (kk : P (F_X1_actsOf_30 I o a1)) : V (zM x_X1_actsOf 1 0 0 t) 30 [(0, .ref o), (1, .int a1)] [] ly0 I L R0 0 0 :=
  V_iconst (tat ok_X1_actsOf_0 (i := 16) (q := 31) rfl rfl) ic_0 <|
    V_X1_actsOf_31 ho hr (jx (P := P) kk rfl)
def F_X1_actsOf (I : WI) (o : Nat) (a1 : Int32) : Int32 :=
  (if a1 < 0 then (F_X1_actsOf_30 I o a1) else (if (I o 0) ≤ a1 then (F_X1_actsOf_30 I o a1) else (if 12 ≤ a1 then (F_X1_actsOf_30 I o a1) else (F_X1_actsOf_31 I o a1 (I (o + 1) (Int32.toNatClampNeg a1))))))
theorem V_X1_actsOf  {I : WI} {L : WL} {o : Nat} {a1 : Int32}  {P : Int32 → Prop} {t : Tg} (ho : isX1 o) (hr : ∀ v, P v → t = (some (.int v), ly0, I, L, R0)) (kk : P (F_X1_actsOf I o a1)) : V (zM x_X1_actsOf 1 0 0 t) 0 [(0, .ref o), (1, .int a1)] [] ly0 I L R0 0 0 :=
  V_iload_n (tat ok_X1_actsOf_0 (i := 0) (q := 1) rfl rfl) 1 rfl rfl <|
    V_if_lt (tat ok_X1_actsOf_0 (i := 1) (q := 4) rfl rfl) rfl (fun c1 => V_X1_actsOf_30 ho hr (jx (P := P) kk (if_pos c1))) (fun c1 => V_iload_n (tat ok_X1_actsOf_0 (i := 2) (q := 5) rfl rfl) 1 rfl rfl <|
    V_aload_n (tat ok_X1_actsOf_0 (i := 3) (q := 6) rfl rfl) 0 rfl rfl <|
    V_getI (tat ok_X1_actsOf_0 (i := 4) (q := 9) rfl rfl) fk_X1_16 ho.1 <|
    V_icmp_ge (tat ok_X1_actsOf_0 (i := 5) (q := 12) rfl rfl) rfl (fun c2 => V_X1_actsOf_30 ho hr (jx (P := P) kk (Eq.trans (if_neg c1) (if_pos c2)))) (fun c2 => V_iload_n (tat ok_X1_actsOf_0 (i := 6) (q := 13) rfl rfl) 1 rfl rfl <|
    V_aload_n (tat ok_X1_actsOf_0 (i := 7) (q := 14) rfl rfl) 0 rfl rfl <|
    V_getR (tat ok_X1_actsOf_0 (i := 8) (q := 17) rfl rfl) fk_X1_9 ho.1 ho.2.1 <|
    V_alen (tat ok_X1_actsOf_0 (i := 9) (q := 18) rfl rfl) ho.2.2.2.1 ⟨by decide, by decide⟩ nl_12 <|
    V_icmp_ge (tat ok_X1_actsOf_0 (i := 10) (q := 21) rfl rfl) rfl (fun c3 => V_X1_actsOf_30 ho hr (jx (P := P) kk (Eq.trans (if_neg c1) (Eq.trans (if_neg c2) (if_pos c3))))) (fun c3 => V_aload_n (tat ok_X1_actsOf_0 (i := 11) (q := 22) rfl rfl) 0 rfl rfl <|
    V_getR (tat ok_X1_actsOf_0 (i := 12) (q := 25) rfl rfl) fk_X1_9 ho.1 ho.2.1 <|
    V_iload_n (tat ok_X1_actsOf_0 (i := 13) (q := 26) rfl rfl) 1 rfl rfl <|
    V_iald (tat ok_X1_actsOf_0 (i := 14) (q := 27) rfl rfl) ho.2.2.2.1 (vpin ti_12 c1 c3) <|
    V_goto (tat ok_X1_actsOf_0 (i := 15) (q := 30) rfl rfl) rfl <|
    V_X1_actsOf_31 ho hr (jx (P := P) kk (Eq.trans (if_neg c1) (Eq.trans (if_neg c2) (if_neg c3)))))))
theorem ct_X1_actsOf  (I : WI) (L : WL) (o : Nat) (a1 : Int32) (ho : isX1 o) : Ct x_X1_actsOf 1 [.ref o, .int a1] ly0 I L R0 0 0 (some (.int (F_X1_actsOf I o a1)), ly0, I, L, R0) :=
  Ct_of_V mo_X1_actsOf.1 (Nat.le_of_ble_eq_true rfl) (V_X1_actsOf (P := fun x => x = (F_X1_actsOf I o a1)) ho (fun _ e => by rw [e]) rfl)
def F_X1_add_69 (I : WI) (o : Nat) (a1 : Int32) (a2 : Int32) : WI :=
  I
theorem V_X1_add_69  {I : WI} {L : WL} {o : Nat} {a1 : Int32} {a2 : Int32}  {P : WI → Prop} {t : Tg} (ho : isX1 o) (hr : ∀ v, P v → t = (none, ly0, v, L, R0)) (kk : P (F_X1_add_69 I o a1 a2)) : V (zM x_X1_add 2 0 0 t) 69 [(0, .ref o), (1, .int a1), (2, .int a2)] [] ly0 I L R0 0 0 :=
  V_vret (tat ok_X1_add_1 (i := 4) (q := 70) rfl rfl) rfl (hr I (jx (P := P) kk rfl)) ⟨(Nat.le_of_ble_eq_true rfl), (Nat.le_of_ble_eq_true rfl)⟩
def F_X1_add (I : WI) (o : Nat) (a1 : Int32) (a2 : Int32) : WI :=
  (if ((I o 0) - 1) < 0 then (F_X1_add_69 I o a1 a2) else (if 12 ≤ ((I o 0) - 1) then (F_X1_add_69 I o a1 a2) else (if ((3 * ((I o 0) - 1)) + (F_X1_actsOf I o ((I o 0) - 1))) < 0 then (F_X1_add_69 I o a1 a2) else (if 36 ≤ ((3 * ((I o 0) - 1)) + (F_X1_actsOf I o ((I o 0) - 1))) then (F_X1_add_69 I o a1 a2) else (F_X1_add_69 (u2 (u2 I (o + 2) (Int32.toNatClampNeg ((3 * ((I o 0) - 1)) + (F_X1_actsOf I o ((I o 0) - 1)))) ((20 * a1) + a2)) (o + 1) (Int32.toNatClampNeg ((I o 0) - 1)) (((u2 I (o + 2) (Int32.toNatClampNeg ((3 * ((I o 0) - 1)) + (F_X1_actsOf I o ((I o 0) - 1)))) ((20 * a1) + a2)) (o + 1) (Int32.toNatClampNeg ((I o 0) - 1))) + 1)) o a1 a2)))))
theorem V_X1_add  {I : WI} {L : WL} {o : Nat} {a1 : Int32} {a2 : Int32}  {P : WI → Prop} {t : Tg} (ho : isX1 o) (hr : ∀ v, P v → t = (none, ly0, v, L, R0)) (kk : P (F_X1_add I o a1 a2)) : V (zM x_X1_add 2 0 0 t) 0 [(0, .ref o), (1, .int a1), (2, .int a2)] [] ly0 I L R0 0 0 :=
  V_aload_n (tat ok_X1_add_0 (i := 0) (q := 1) rfl rfl) 0 rfl rfl <|
    V_getI (tat ok_X1_add_0 (i := 1) (q := 4) rfl rfl) fk_X1_16 ho.1 <|
    V_iconst (tat ok_X1_add_0 (i := 2) (q := 5) rfl rfl) ic_1 <|
    V_isub (tat ok_X1_add_0 (i := 3) (q := 6) rfl rfl) <|
    V_istore_n (lv' := [(3, .int ((I o 0) - 1)), (0, .ref o), (1, .int a1), (2, .int a2)]) (tat ok_X1_add_0 (i := 4) (q := 7) rfl rfl) rfl (Nat.le_of_ble_eq_true rfl) rfl <|
    V_iconst (tat ok_X1_add_0 (i := 5) (q := 8) rfl rfl) ic_3 <|
    V_iload_n (tat ok_X1_add_0 (i := 6) (q := 9) rfl rfl) 0 rfl rfl <|
    V_imul (tat ok_X1_add_0 (i := 7) (q := 10) rfl rfl) <|
    V_aload_n (tat ok_X1_add_0 (i := 8) (q := 11) rfl rfl) 1 rfl rfl <|
    V_iload_n (tat ok_X1_add_0 (i := 9) (q := 12) rfl rfl) 0 rfl rfl <|
    V_cv1 (ct_X1_actsOf I L o ((I o 0) - 1) ho) mo_X1_actsOf (tat ok_X1_add_0 (i := 10) (q := 15) rfl rfl) ml_X1_20 ho.1 ⟨by decide, _, rfl, rfl⟩ ⟨(Nat.le_of_ble_eq_true rfl), (Nat.le_of_ble_eq_true rfl)⟩ ⟨(Nat.le_of_ble_eq_true rfl), (Nat.le_of_ble_eq_true rfl)⟩ (Nat.le_of_ble_eq_true rfl) <|
    V_iadd (tat ok_X1_add_0 (i := 11) (q := 16) rfl rfl) <|
    V_istore (lv' := [(4, .int ((3 * ((I o 0) - 1)) + (F_X1_actsOf I o ((I o 0) - 1)))), (3, .int ((I o 0) - 1)), (0, .ref o), (1, .int a1), (2, .int a2)]) (tat ok_X1_add_0 (i := 12) (q := 18) rfl rfl) (Nat.le_of_ble_eq_true rfl) rfl <|
    V_iload_n (tat ok_X1_add_0 (i := 13) (q := 19) rfl rfl) 1 rfl rfl <|
    V_if_lt (tat ok_X1_add_0 (i := 14) (q := 22) rfl rfl) rfl (fun c1 => V_pick [2, 3, 4] rfl (V_X1_add_69 ho hr (jx (P := P) kk (if_pos c1)))) (fun c1 => V_iload_n (tat ok_X1_add_0 (i := 15) (q := 23) rfl rfl) 1 rfl rfl <|
    V_aload_n (tat ok_X1_add_0 (i := 16) (q := 24) rfl rfl) 2 rfl rfl <|
    V_getR (tat ok_X1_add_0 (i := 17) (q := 27) rfl rfl) fk_X1_9 ho.1 ho.2.1 <|
    V_alen (tat ok_X1_add_0 (i := 18) (q := 28) rfl rfl) ho.2.2.2.1 ⟨by decide, by decide⟩ nl_12 <|
    V_icmp_ge (tat ok_X1_add_0 (i := 19) (q := 31) rfl rfl) rfl (fun c2 => V_pick [2, 3, 4] rfl (V_X1_add_69 ho hr (jx (P := P) kk (Eq.trans (if_neg c1) (if_pos c2))))) (fun c2 => V_iload (tat ok_X1_add_0 (i := 20) (q := 33) rfl rfl) 0 rfl <|
    V_if_lt (tat ok_X1_add_0 (i := 21) (q := 36) rfl rfl) rfl (fun c3 => V_pick [2, 3, 4] rfl (V_X1_add_69 ho hr (jx (P := P) kk (Eq.trans (if_neg c1) (Eq.trans (if_neg c2) (if_pos c3)))))) (fun c3 => V_iload (tat ok_X1_add_0 (i := 22) (q := 38) rfl rfl) 0 rfl <|
    V_aload_n (tat ok_X1_add_0 (i := 23) (q := 39) rfl rfl) 2 rfl rfl <|
    V_getR (tat ok_X1_add_0 (i := 24) (q := 42) rfl rfl) fk_X1_13 ho.1 ho.2.2.1 <|
    V_alen (tat ok_X1_add_0 (i := 25) (q := 43) rfl rfl) ho.2.2.2.2 ⟨by decide, by decide⟩ nl_36 <|
    V_icmp_ge (tat ok_X1_add_0 (i := 26) (q := 46) rfl rfl) rfl (fun c4 => V_pick [2, 3, 4] rfl (V_X1_add_69 ho hr (jx (P := P) kk (Eq.trans (if_neg c1) (Eq.trans (if_neg c2) (Eq.trans (if_neg c3) (if_pos c4))))))) (fun c4 => V_aload_n (tat ok_X1_add_0 (i := 27) (q := 47) rfl rfl) 2 rfl rfl <|
    V_getR (tat ok_X1_add_0 (i := 28) (q := 50) rfl rfl) fk_X1_13 ho.1 ho.2.2.1 <|
    V_iload (tat ok_X1_add_0 (i := 29) (q := 52) rfl rfl) 0 rfl <|
    V_bipush (tat ok_X1_add_0 (i := 30) (q := 54) rfl rfl) bp_20 <|
    V_iload_n (tat ok_X1_add_0 (i := 31) (q := 55) rfl rfl) 3 rfl rfl <|
    V_imul (tat ok_X1_add_0 (i := 32) (q := 56) rfl rfl) <|
    V_iload_n (tat ok_X1_add_0 (i := 33) (q := 57) rfl rfl) 4 rfl rfl <|
    V_iadd (tat ok_X1_add_0 (i := 34) (q := 58) rfl rfl) <|
    V_iast (tat ok_X1_add_0 (i := 35) (q := 59) rfl rfl) ho.2.2.2.2 (vpin ti_36 c3 c4) <|
    V_aload_n (tat ok_X1_add_0 (i := 36) (q := 60) rfl rfl) 2 rfl rfl <|
    V_getR (tat ok_X1_add_0 (i := 37) (q := 63) rfl rfl) fk_X1_9 ho.1 ho.2.1 <|
    V_iload_n (tat ok_X1_add_0 (i := 38) (q := 64) rfl rfl) 1 rfl rfl <|
    V_dup2 (tat ok_X1_add_0 (i := 39) (q := 65) rfl rfl) rfl rfl <|
    V_iald (tat ok_X1_add_1 (i := 0) (q := 66) rfl rfl) ho.2.2.2.1 (vpin ti_12 c1 c2) <|
    V_iconst (tat ok_X1_add_1 (i := 1) (q := 67) rfl rfl) ic_1 <|
    V_iadd (tat ok_X1_add_1 (i := 2) (q := 68) rfl rfl) <|
    V_iast (tat ok_X1_add_1 (i := 3) (q := 69) rfl rfl) ho.2.2.2.1 (vpin ti_12 c1 c2) <|
    V_pick [2, 3, 4] rfl (V_X1_add_69 ho hr (jx (P := P) kk (Eq.trans (if_neg c1) (Eq.trans (if_neg c2) (Eq.trans (if_neg c3) (if_neg c4))))))))))
theorem ct_X1_add  (I : WI) (L : WL) (o : Nat) (a1 : Int32) (a2 : Int32) (ho : isX1 o) : Ct x_X1_add 2 [.ref o, .int a1, .int a2] ly0 I L R0 0 0 (none, ly0, (F_X1_add I o a1 a2), L, R0) :=
  Ct_of_V mo_X1_add.1 (Nat.le_of_ble_eq_true rfl) (V_X1_add (P := fun x => x = (F_X1_add I o a1 a2)) ho (fun _ e => by rw [e]) rfl)
def F_X1_codeOf_42 (I : WI) (o : Nat) (a1 : Int32) (a2 : Int32) (s0 : Int32) : Int32 :=
  s0
theorem V_X1_codeOf_42  {I : WI} {L : WL} {o : Nat} {a1 : Int32} {a2 : Int32} {s0 : Int32} {P : Int32 → Prop} {t : Tg} (ho : isX1 o) (hr : ∀ v, P v → t = (some (.int v), ly0, I, L, R0)) (kk : P (F_X1_codeOf_42 I o a1 a2 s0)) : V (zM x_X1_codeOf 2 0 0 t) 42 [(0, .ref o), (1, .int a1), (2, .int a2)] [.int s0] ly0 I L R0 0 0 :=
  V_iret (tat ok_X1_codeOf_0 (i := 26) (q := 43) rfl rfl) _ rfl (nar_int _) (hr s0 (jx (P := P) kk rfl)) ⟨(Nat.le_of_ble_eq_true rfl), (Nat.le_of_ble_eq_true rfl)⟩
def F_X1_codeOf_41 (I : WI) (o : Nat) (a1 : Int32) (a2 : Int32) : Int32 :=
  (F_X1_codeOf_42 I o a1 a2 0)
theorem V_X1_codeOf_41  {I : WI} {L : WL} {o : Nat} {a1 : Int32} {a2 : Int32}  {P : Int32 → Prop} {t : Tg} (ho : isX1 o) (hr : ∀ v, P v → t = (some (.int v), ly0, I, L, R0)) (kk : P (F_X1_codeOf_41 I o a1 a2)) : V (zM x_X1_codeOf 2 0 0 t) 41 [(0, .ref o), (1, .int a1), (2, .int a2)] [] ly0 I L R0 0 0 :=
  V_iconst (tat ok_X1_codeOf_0 (i := 25) (q := 42) rfl rfl) ic_0 <|
    V_X1_codeOf_42 ho hr (jx (P := P) kk rfl)
def F_X1_codeOf (I : WI) (o : Nat) (a1 : Int32) (a2 : Int32) : Int32 :=
  (if a2 < 0 then (F_X1_codeOf_41 I o a1 a2) else (if (F_X1_actsOf I o a1) ≤ a2 then (F_X1_codeOf_41 I o a1 a2) else (if ((3 * a1) + a2) < 0 then (F_X1_codeOf_41 I o a1 a2) else (if 36 ≤ ((3 * a1) + a2) then (F_X1_codeOf_41 I o a1 a2) else (F_X1_codeOf_42 I o a1 a2 (I (o + 2) (Int32.toNatClampNeg ((3 * a1) + a2))))))))
theorem V_X1_codeOf  {I : WI} {L : WL} {o : Nat} {a1 : Int32} {a2 : Int32}  {P : Int32 → Prop} {t : Tg} (ho : isX1 o) (hr : ∀ v, P v → t = (some (.int v), ly0, I, L, R0)) (kk : P (F_X1_codeOf I o a1 a2)) : V (zM x_X1_codeOf 2 0 0 t) 0 [(0, .ref o), (1, .int a1), (2, .int a2)] [] ly0 I L R0 0 0 :=
  V_iconst (tat ok_X1_codeOf_0 (i := 0) (q := 1) rfl rfl) ic_3 <|
    V_iload_n (tat ok_X1_codeOf_0 (i := 1) (q := 2) rfl rfl) 1 rfl rfl <|
    V_imul (tat ok_X1_codeOf_0 (i := 2) (q := 3) rfl rfl) <|
    V_iload_n (tat ok_X1_codeOf_0 (i := 3) (q := 4) rfl rfl) 2 rfl rfl <|
    V_iadd (tat ok_X1_codeOf_0 (i := 4) (q := 5) rfl rfl) <|
    V_istore_n (lv' := [(3, .int ((3 * a1) + a2)), (0, .ref o), (1, .int a1), (2, .int a2)]) (tat ok_X1_codeOf_0 (i := 5) (q := 6) rfl rfl) rfl (Nat.le_of_ble_eq_true rfl) rfl <|
    V_iload_n (tat ok_X1_codeOf_0 (i := 6) (q := 7) rfl rfl) 3 rfl rfl <|
    V_if_lt (tat ok_X1_codeOf_0 (i := 7) (q := 10) rfl rfl) rfl (fun c1 => V_pick [1, 2, 3] rfl (V_X1_codeOf_41 ho hr (jx (P := P) kk (if_pos c1)))) (fun c1 => V_iload_n (tat ok_X1_codeOf_0 (i := 8) (q := 11) rfl rfl) 3 rfl rfl <|
    V_aload_n (tat ok_X1_codeOf_0 (i := 9) (q := 12) rfl rfl) 1 rfl rfl <|
    V_iload_n (tat ok_X1_codeOf_0 (i := 10) (q := 13) rfl rfl) 2 rfl rfl <|
    V_cv1 (ct_X1_actsOf I L o a1 ho) mo_X1_actsOf (tat ok_X1_codeOf_0 (i := 11) (q := 16) rfl rfl) ml_X1_20 ho.1 ⟨by decide, _, rfl, rfl⟩ ⟨(Nat.le_of_ble_eq_true rfl), (Nat.le_of_ble_eq_true rfl)⟩ ⟨(Nat.le_of_ble_eq_true rfl), (Nat.le_of_ble_eq_true rfl)⟩ (Nat.le_of_ble_eq_true rfl) <|
    V_icmp_ge (tat ok_X1_codeOf_0 (i := 12) (q := 19) rfl rfl) rfl (fun c2 => V_pick [1, 2, 3] rfl (V_X1_codeOf_41 ho hr (jx (P := P) kk (Eq.trans (if_neg c1) (if_pos c2))))) (fun c2 => V_iload_n (tat ok_X1_codeOf_0 (i := 13) (q := 20) rfl rfl) 0 rfl rfl <|
    V_if_lt (tat ok_X1_codeOf_0 (i := 14) (q := 23) rfl rfl) rfl (fun c3 => V_pick [1, 2, 3] rfl (V_X1_codeOf_41 ho hr (jx (P := P) kk (Eq.trans (if_neg c1) (Eq.trans (if_neg c2) (if_pos c3)))))) (fun c3 => V_iload_n (tat ok_X1_codeOf_0 (i := 15) (q := 24) rfl rfl) 0 rfl rfl <|
    V_aload_n (tat ok_X1_codeOf_0 (i := 16) (q := 25) rfl rfl) 1 rfl rfl <|
    V_getR (tat ok_X1_codeOf_0 (i := 17) (q := 28) rfl rfl) fk_X1_13 ho.1 ho.2.2.1 <|
    V_alen (tat ok_X1_codeOf_0 (i := 18) (q := 29) rfl rfl) ho.2.2.2.2 ⟨by decide, by decide⟩ nl_36 <|
    V_icmp_ge (tat ok_X1_codeOf_0 (i := 19) (q := 32) rfl rfl) rfl (fun c4 => V_pick [1, 2, 3] rfl (V_X1_codeOf_41 ho hr (jx (P := P) kk (Eq.trans (if_neg c1) (Eq.trans (if_neg c2) (Eq.trans (if_neg c3) (if_pos c4))))))) (fun c4 => V_aload_n (tat ok_X1_codeOf_0 (i := 20) (q := 33) rfl rfl) 1 rfl rfl <|
    V_getR (tat ok_X1_codeOf_0 (i := 21) (q := 36) rfl rfl) fk_X1_13 ho.1 ho.2.2.1 <|
    V_iload_n (tat ok_X1_codeOf_0 (i := 22) (q := 37) rfl rfl) 0 rfl rfl <|
    V_iald (tat ok_X1_codeOf_0 (i := 23) (q := 38) rfl rfl) ho.2.2.2.2 (vpin ti_36 c3 c4) <|
    V_goto (tat ok_X1_codeOf_0 (i := 24) (q := 41) rfl rfl) rfl <|
    V_pick [1, 2, 3] rfl (V_X1_codeOf_42 ho hr (jx (P := P) kk (Eq.trans (if_neg c1) (Eq.trans (if_neg c2) (Eq.trans (if_neg c3) (if_neg c4))))))))))
theorem ct_X1_codeOf  (I : WI) (L : WL) (o : Nat) (a1 : Int32) (a2 : Int32) (ho : isX1 o) : Ct x_X1_codeOf 2 [.ref o, .int a1, .int a2] ly0 I L R0 0 0 (some (.int (F_X1_codeOf I o a1 a2)), ly0, I, L, R0) :=
  Ct_of_V mo_X1_codeOf.1 (Nat.le_of_ble_eq_true rfl) (V_X1_codeOf (P := fun x => x = (F_X1_codeOf I o a1 a2)) ho (fun _ e => by rw [e]) rfl)
def F_X1_kindOf (I : WI) (o : Nat) (a1 : Int32) (a2 : Int32) : Int32 :=
  ((F_X1_codeOf I o a1 a2) / 20)
theorem V_X1_kindOf  {I : WI} {L : WL} {o : Nat} {a1 : Int32} {a2 : Int32}  {P : Int32 → Prop} {t : Tg} (ho : isX1 o) (hr : ∀ v, P v → t = (some (.int v), ly0, I, L, R0)) (kk : P (F_X1_kindOf I o a1 a2)) : V (zM x_X1_kindOf 3 0 0 t) 0 [(0, .ref o), (1, .int a1), (2, .int a2)] [] ly0 I L R0 0 0 :=
  V_aload_n (tat ok_X1_kindOf_0 (i := 0) (q := 1) rfl rfl) 0 rfl rfl <|
    V_iload_n (tat ok_X1_kindOf_0 (i := 1) (q := 2) rfl rfl) 1 rfl rfl <|
    V_iload_n (tat ok_X1_kindOf_0 (i := 2) (q := 3) rfl rfl) 2 rfl rfl <|
    V_cv2 (ct_X1_codeOf I L o a1 a2 ho) mo_X1_codeOf (tat ok_X1_kindOf_0 (i := 3) (q := 6) rfl rfl) ml_X1_24 ho.1 ⟨by decide, _, rfl, rfl⟩ ⟨(Nat.le_of_ble_eq_true rfl), (Nat.le_of_ble_eq_true rfl)⟩ ⟨(Nat.le_of_ble_eq_true rfl), (Nat.le_of_ble_eq_true rfl)⟩ (Nat.le_of_ble_eq_true rfl) <|
    V_bipush (tat ok_X1_kindOf_0 (i := 4) (q := 8) rfl rfl) bp_20 <|
    V_idiv (tat ok_X1_kindOf_0 (i := 5) (q := 9) rfl rfl) (by decide) <|
    V_iret (tat ok_X1_kindOf_0 (i := 6) (q := 10) rfl rfl) _ rfl (nar_int _) (hr ((F_X1_codeOf I o a1 a2) / 20) (jx (P := P) kk rfl)) ⟨(Nat.le_of_ble_eq_true rfl), (Nat.le_of_ble_eq_true rfl)⟩
theorem ct_X1_kindOf  (I : WI) (L : WL) (o : Nat) (a1 : Int32) (a2 : Int32) (ho : isX1 o) : Ct x_X1_kindOf 3 [.ref o, .int a1, .int a2] ly0 I L R0 0 0 (some (.int (F_X1_kindOf I o a1 a2)), ly0, I, L, R0) :=
  Ct_of_V mo_X1_kindOf.1 (Nat.le_of_ble_eq_true rfl) (V_X1_kindOf (P := fun x => x = (F_X1_kindOf I o a1 a2)) ho (fun _ e => by rw [e]) rfl)
def F_X1_numberOf (I : WI) (o : Nat) (a1 : Int32) (a2 : Int32) : Int32 :=
  ((F_X1_codeOf I o a1 a2) - (F_X1_codeOf I o a1 a2) / 20 * 20)
theorem V_X1_numberOf  {I : WI} {L : WL} {o : Nat} {a1 : Int32} {a2 : Int32}  {P : Int32 → Prop} {t : Tg} (ho : isX1 o) (hr : ∀ v, P v → t = (some (.int v), ly0, I, L, R0)) (kk : P (F_X1_numberOf I o a1 a2)) : V (zM x_X1_numberOf 3 0 0 t) 0 [(0, .ref o), (1, .int a1), (2, .int a2)] [] ly0 I L R0 0 0 :=
  V_aload_n (tat ok_X1_numberOf_0 (i := 0) (q := 1) rfl rfl) 0 rfl rfl <|
    V_iload_n (tat ok_X1_numberOf_0 (i := 1) (q := 2) rfl rfl) 1 rfl rfl <|
    V_iload_n (tat ok_X1_numberOf_0 (i := 2) (q := 3) rfl rfl) 2 rfl rfl <|
    V_cv2 (ct_X1_codeOf I L o a1 a2 ho) mo_X1_codeOf (tat ok_X1_numberOf_0 (i := 3) (q := 6) rfl rfl) ml_X1_24 ho.1 ⟨by decide, _, rfl, rfl⟩ ⟨(Nat.le_of_ble_eq_true rfl), (Nat.le_of_ble_eq_true rfl)⟩ ⟨(Nat.le_of_ble_eq_true rfl), (Nat.le_of_ble_eq_true rfl)⟩ (Nat.le_of_ble_eq_true rfl) <|
    V_bipush (tat ok_X1_numberOf_0 (i := 4) (q := 8) rfl rfl) bp_20 <|
    V_irem (tat ok_X1_numberOf_0 (i := 5) (q := 9) rfl rfl) (by decide) <|
    V_iret (tat ok_X1_numberOf_0 (i := 6) (q := 10) rfl rfl) _ rfl (nar_int _) (hr ((F_X1_codeOf I o a1 a2) - (F_X1_codeOf I o a1 a2) / 20 * 20) (jx (P := P) kk rfl)) ⟨(Nat.le_of_ble_eq_true rfl), (Nat.le_of_ble_eq_true rfl)⟩
theorem ct_X1_numberOf  (I : WI) (L : WL) (o : Nat) (a1 : Int32) (a2 : Int32) (ho : isX1 o) : Ct x_X1_numberOf 3 [.ref o, .int a1, .int a2] ly0 I L R0 0 0 (some (.int (F_X1_numberOf I o a1 a2)), ly0, I, L, R0) :=
  Ct_of_V mo_X1_numberOf.1 (Nat.le_of_ble_eq_true rfl) (V_X1_numberOf (P := fun x => x = (F_X1_numberOf I o a1 a2)) ho (fun _ e => by rw [e]) rfl)
def F_X2_find_88_1 (I : WI) (L : WL) (o : Nat) (r1 : Nat) (r2 : Nat) (a4 : Int32) (a3 : Int32) : (Int32 × WI × WL) :=
  (a3, I, L)
theorem V_X2_find_88_1  {I : WI} {L : WL} {o : Nat} {r1 : Nat} {r2 : Nat} {a4 : Int32} {a3 : Int32} {P : (Int32 × WI × WL) → Prop} {t : Tg} (ho : isX2 o) (hr1 : isX0 r1) (hr2 : isX0 r2) (hk : ∀ x : (Int32 × WI × WL), P x → V (zM x_X2_find 6 0 0 t) 5 [(0, .ref o), (1, .ref r1), (2, .ref r2), (3, .int (p1 x)), (4, .int (a4 + 1))] [] ly0 (p1 (p2 x)) (p2 (p2 x)) R0 0 0) (kk : P (F_X2_find_88_1 I L o r1 r2 a4 a3)) : V (zM x_X2_find 6 0 0 t) 88 [(0, .ref o), (1, .ref r1), (2, .ref r2), (3, .int a3), (4, .int a4)] [] ly0 I L R0 0 0 :=
  V_iinc (v := (a4 + 1)) (lv' := [(4, .int (a4 + 1)), (0, .ref o), (1, .ref r1), (2, .ref r2), (3, .int a3)]) (tat ok_X2_find_1 (i := 6) (q := 91) rfl rfl) 4 rfl (ia ic_1) (Nat.le_of_ble_eq_true rfl) rfl <|
    V_goto (tat ok_X2_find_1 (i := 7) (q := 94) rfl rfl) rfl <|
    V_pick [1, 2, 3, 4, 0] rfl (hk (a3, I, L) (jx (P := P) kk rfl))
def F_X2_find_58_1 (I : WI) (L : WL) (o : Nat) (r1 : Nat) (r2 : Nat) (a4 : Int32) (a5 : Int64) : (Int32 × WI × WL) :=
  (F_X2_find_88_1 (u2 (u2 (u2 I o 3 a4) o 0 ((u2 I o 3 a4) r2 1)) o 1 ((u2 (u2 I o 3 a4) o 0 ((u2 I o 3 a4) r2 1)) r2 2)) (u2 L o 2 a5) o r1 r2 a4 1)
theorem V_X2_find_58_1  {I : WI} {L : WL} {o : Nat} {r1 : Nat} {r2 : Nat} {a4 : Int32} {a5 : Int64} {P : (Int32 × WI × WL) → Prop} {t : Tg} (ho : isX2 o) (hr1 : isX0 r1) (hr2 : isX0 r2) (hk : ∀ x : (Int32 × WI × WL), P x → V (zM x_X2_find 6 0 0 t) 5 [(0, .ref o), (1, .ref r1), (2, .ref r2), (3, .int (p1 x)), (4, .int (a4 + 1))] [] ly0 (p1 (p2 x)) (p2 (p2 x)) R0 0 0) (kk : P (F_X2_find_58_1 I L o r1 r2 a4 a5)) : V (zM x_X2_find 6 0 0 t) 58 [(0, .ref o), (1, .ref r1), (2, .ref r2), (4, .int a4), (5, .long a5)] [] ly0 I L R0 0 0 :=
  V_iconst (tat ok_X2_find_0 (i := 30) (q := 59) rfl rfl) ic_1 <|
    V_istore_n (lv' := [(3, .int 1), (0, .ref o), (1, .ref r1), (2, .ref r2), (4, .int a4), (5, .long a5)]) (tat ok_X2_find_0 (i := 31) (q := 60) rfl rfl) rfl (Nat.le_of_ble_eq_true rfl) rfl <|
    V_aload_n (tat ok_X2_find_0 (i := 32) (q := 61) rfl rfl) 1 rfl rfl <|
    V_lload (tat ok_X2_find_0 (i := 33) (q := 63) rfl rfl) 5 rfl <|
    V_putL (tat ok_X2_find_0 (i := 34) (q := 66) rfl rfl) fk_X2_34 ho rfl <|
    V_aload_n (tat ok_X2_find_0 (i := 35) (q := 67) rfl rfl) 1 rfl rfl <|
    V_iload (tat ok_X2_find_0 (i := 36) (q := 69) rfl rfl) 4 rfl <|
    V_putI (tat ok_X2_find_0 (i := 37) (q := 72) rfl rfl) fk_X2_39 ho rfl <|
    V_aload_n (tat ok_X2_find_0 (i := 38) (q := 73) rfl rfl) 1 rfl rfl <|
    V_aload_n (tat ok_X2_find_0 (i := 39) (q := 74) rfl rfl) 3 rfl rfl <|
    V_getI (tat ok_X2_find_1 (i := 0) (q := 77) rfl rfl) fk_X2_27 hr2 <|
    V_putI (tat ok_X2_find_1 (i := 1) (q := 80) rfl rfl) fk_X2_42 ho rfl <|
    V_aload_n (tat ok_X2_find_1 (i := 2) (q := 81) rfl rfl) 1 rfl rfl <|
    V_aload_n (tat ok_X2_find_1 (i := 3) (q := 82) rfl rfl) 3 rfl rfl <|
    V_getI (tat ok_X2_find_1 (i := 4) (q := 85) rfl rfl) fk_X2_31 hr2 <|
    V_putI (tat ok_X2_find_1 (i := 5) (q := 88) rfl rfl) fk_X2_43 ho rfl <|
    V_pick [1, 2, 3, 0, 4] rfl (V_X2_find_88_1 ho hr1 hr2 hk (jx (P := P) kk rfl))
def F_X2_find_12_1 (I : WI) (L : WL) (o : Nat) (r1 : Nat) (r2 : Nat) (a4 : Int32) (a3 : Int32) : (Int32 × WI × WL) :=
  (if ((p1 (F_X0_rotateBy (p1 (F_X0_become I L r2 r1)) (p2 (F_X0_become I L r2 r1)) r2 a4)) r2 2) < ((p1 (F_X0_rotateBy (p1 (F_X0_become I L r2 r1)) (p2 (F_X0_become I L r2 r1)) r2 a4)) r2 1) then (F_X2_find_88_1 (p1 (F_X0_rotateBy (p1 (F_X0_become I L r2 r1)) (p2 (F_X0_become I L r2 r1)) r2 a4)) (p2 (F_X0_rotateBy (p1 (F_X0_become I L r2 r1)) (p2 (F_X0_become I L r2 r1)) r2 a4)) o r1 r2 a4 a3) else (if a3 = 0 then (F_X2_find_58_1 (p1 (F_X0_rotateBy (p1 (F_X0_become I L r2 r1)) (p2 (F_X0_become I L r2 r1)) r2 a4)) (p2 (F_X0_rotateBy (p1 (F_X0_become I L r2 r1)) (p2 (F_X0_become I L r2 r1)) r2 a4)) o r1 r2 a4 (F_X0_formOf (p1 (F_X0_rotateBy (p1 (F_X0_become I L r2 r1)) (p2 (F_X0_become I L r2 r1)) r2 a4)) r2 ((p2 (F_X0_rotateBy (p1 (F_X0_become I L r2 r1)) (p2 (F_X0_become I L r2 r1)) r2 a4)) r2 3))) else (if 0 ≤ (lg_cmp (F_X0_formOf (p1 (F_X0_rotateBy (p1 (F_X0_become I L r2 r1)) (p2 (F_X0_become I L r2 r1)) r2 a4)) r2 ((p2 (F_X0_rotateBy (p1 (F_X0_become I L r2 r1)) (p2 (F_X0_become I L r2 r1)) r2 a4)) r2 3)) ((p2 (F_X0_rotateBy (p1 (F_X0_become I L r2 r1)) (p2 (F_X0_become I L r2 r1)) r2 a4)) o 2)) then (F_X2_find_88_1 (p1 (F_X0_rotateBy (p1 (F_X0_become I L r2 r1)) (p2 (F_X0_become I L r2 r1)) r2 a4)) (p2 (F_X0_rotateBy (p1 (F_X0_become I L r2 r1)) (p2 (F_X0_become I L r2 r1)) r2 a4)) o r1 r2 a4 a3) else (F_X2_find_58_1 (p1 (F_X0_rotateBy (p1 (F_X0_become I L r2 r1)) (p2 (F_X0_become I L r2 r1)) r2 a4)) (p2 (F_X0_rotateBy (p1 (F_X0_become I L r2 r1)) (p2 (F_X0_become I L r2 r1)) r2 a4)) o r1 r2 a4 (F_X0_formOf (p1 (F_X0_rotateBy (p1 (F_X0_become I L r2 r1)) (p2 (F_X0_become I L r2 r1)) r2 a4)) r2 ((p2 (F_X0_rotateBy (p1 (F_X0_become I L r2 r1)) (p2 (F_X0_become I L r2 r1)) r2 a4)) r2 3))))))
theorem V_X2_find_12_1  {I : WI} {L : WL} {o : Nat} {r1 : Nat} {r2 : Nat} {a4 : Int32} {a3 : Int32} {P : (Int32 × WI × WL) → Prop} {t : Tg} (ho : isX2 o) (hr1 : isX0 r1) (hr2 : isX0 r2) (hk : ∀ x : (Int32 × WI × WL), P x → V (zM x_X2_find 6 0 0 t) 5 [(0, .ref o), (1, .ref r1), (2, .ref r2), (3, .int (p1 x)), (4, .int (a4 + 1))] [] ly0 (p1 (p2 x)) (p2 (p2 x)) R0 0 0) (kk : P (F_X2_find_12_1 I L o r1 r2 a4 a3)) : V (zM x_X2_find 6 0 0 t) 12 [(0, .ref o), (1, .ref r1), (2, .ref r2), (3, .int a3), (4, .int a4)] [] ly0 I L R0 0 0 :=
  V_aload_n (tat ok_X2_find_0 (i := 7) (q := 13) rfl rfl) 2 rfl rfl <|
    V_aload_n (tat ok_X2_find_0 (i := 8) (q := 14) rfl rfl) 1 rfl rfl <|
    V_cv1v (ct_X0_become I L r2 r1 hr2 hr1) mo_X0_become (tat ok_X2_find_0 (i := 9) (q := 17) rfl rfl) ml_X2_9 hr2 ⟨by decide, _, rfl, rfl⟩ ⟨(Nat.le_of_ble_eq_true rfl), (Nat.le_of_ble_eq_true rfl)⟩ ⟨(Nat.le_of_ble_eq_true rfl), (Nat.le_of_ble_eq_true rfl)⟩ (Nat.le_of_ble_eq_true rfl) <|
    V_aload_n (tat ok_X2_find_0 (i := 10) (q := 18) rfl rfl) 2 rfl rfl <|
    V_iload (tat ok_X2_find_0 (i := 11) (q := 20) rfl rfl) 4 rfl <|
    V_cv1v (ct_X0_rotateBy (p1 (F_X0_become I L r2 r1)) (p2 (F_X0_become I L r2 r1)) r2 a4 hr2) mo_X0_rotateBy (tat ok_X2_find_0 (i := 12) (q := 23) rfl rfl) ml_X2_15 hr2 ⟨by decide, _, rfl, rfl⟩ ⟨(Nat.le_of_ble_eq_true rfl), (Nat.le_of_ble_eq_true rfl)⟩ ⟨(Nat.le_of_ble_eq_true rfl), (Nat.le_of_ble_eq_true rfl)⟩ (Nat.le_of_ble_eq_true rfl) <|
    V_aload_n (tat ok_X2_find_0 (i := 13) (q := 24) rfl rfl) 2 rfl rfl <|
    V_aload_n (tat ok_X2_find_0 (i := 14) (q := 25) rfl rfl) 2 rfl rfl <|
    V_getL (tat ok_X2_find_0 (i := 15) (q := 28) rfl rfl) fk_X2_19 hr2 <|
    V_cv1 (ct_X0_formOf (p1 (F_X0_rotateBy (p1 (F_X0_become I L r2 r1)) (p2 (F_X0_become I L r2 r1)) r2 a4)) (p2 (F_X0_rotateBy (p1 (F_X0_become I L r2 r1)) (p2 (F_X0_become I L r2 r1)) r2 a4)) r2 ((p2 (F_X0_rotateBy (p1 (F_X0_become I L r2 r1)) (p2 (F_X0_become I L r2 r1)) r2 a4)) r2 3) hr2) mo_X0_formOf (tat ok_X2_find_0 (i := 16) (q := 31) rfl rfl) ml_X2_23 hr2 ⟨by decide, _, rfl, rfl⟩ ⟨(Nat.le_of_ble_eq_true rfl), (Nat.le_of_ble_eq_true rfl)⟩ ⟨(Nat.le_of_ble_eq_true rfl), (Nat.le_of_ble_eq_true rfl)⟩ (Nat.le_of_ble_eq_true rfl) <|
    V_lstore (lv' := [(5, .long (F_X0_formOf (p1 (F_X0_rotateBy (p1 (F_X0_become I L r2 r1)) (p2 (F_X0_become I L r2 r1)) r2 a4)) r2 ((p2 (F_X0_rotateBy (p1 (F_X0_become I L r2 r1)) (p2 (F_X0_become I L r2 r1)) r2 a4)) r2 3))), (0, .ref o), (1, .ref r1), (2, .ref r2), (3, .int a3), (4, .int a4)]) (tat ok_X2_find_0 (i := 17) (q := 33) rfl rfl) (Nat.le_of_ble_eq_true rfl) rfl <|
    V_aload_n (tat ok_X2_find_0 (i := 18) (q := 34) rfl rfl) 3 rfl rfl <|
    V_getI (tat ok_X2_find_0 (i := 19) (q := 37) rfl rfl) fk_X2_27 hr2 <|
    V_aload_n (tat ok_X2_find_0 (i := 20) (q := 38) rfl rfl) 3 rfl rfl <|
    V_getI (tat ok_X2_find_0 (i := 21) (q := 41) rfl rfl) fk_X2_31 hr2 <|
    V_icmp_gt (tat ok_X2_find_0 (i := 22) (q := 44) rfl rfl) rfl (fun c1 => V_pick [1, 2, 3, 4, 5] rfl (V_X2_find_88_1 ho hr1 hr2 hk (jx (P := P) kk (if_pos c1)))) (fun c1 => V_iload_n (tat ok_X2_find_0 (i := 23) (q := 45) rfl rfl) 4 rfl rfl <|
    V_if_eq (tat ok_X2_find_0 (i := 24) (q := 48) rfl rfl) rfl (fun c2 => V_pick [1, 2, 3, 5, 0] rfl (V_X2_find_58_1 ho hr1 hr2 hk (jx (P := P) kk (Eq.trans (if_neg c1) (if_pos c2))))) (fun c2 => V_lload (tat ok_X2_find_0 (i := 25) (q := 50) rfl rfl) 0 rfl <|
    V_aload_n (tat ok_X2_find_0 (i := 26) (q := 51) rfl rfl) 1 rfl rfl <|
    V_getL (tat ok_X2_find_0 (i := 27) (q := 54) rfl rfl) fk_X2_34 ho <|
    V_lcmp (tat ok_X2_find_0 (i := 28) (q := 55) rfl rfl) <|
    V_if_ge (tat ok_X2_find_0 (i := 29) (q := 58) rfl rfl) rfl (fun c3 => V_pick [1, 2, 3, 4, 5] rfl (V_X2_find_88_1 ho hr1 hr2 hk (jx (P := P) kk (Eq.trans (if_neg c1) (Eq.trans (if_neg c2) (if_pos c3)))))) (fun c3 => V_pick [1, 2, 3, 5, 0] rfl (V_X2_find_58_1 ho hr1 hr2 hk (jx (P := P) kk (Eq.trans (if_neg c1) (Eq.trans (if_neg c2) (if_neg c3))))))))
def F_X2_find_94 (I : WI) (L : WL) (o : Nat) (r1 : Nat) (r2 : Nat) : (WI × WL) :=
  (I, L)
theorem V_X2_find_94  {I : WI} {L : WL} {o : Nat} {r1 : Nat} {r2 : Nat}  {P : (WI × WL) → Prop} {t : Tg} (ho : isX2 o) (hr1 : isX0 r1) (hr2 : isX0 r2) (hr : ∀ v, P v → t = (none, ly0, (p1 v), (p2 v), R0)) (kk : P (F_X2_find_94 I L o r1 r2)) : V (zM x_X2_find 6 0 0 t) 94 [(0, .ref o), (1, .ref r1), (2, .ref r2)] [] ly0 I L R0 0 0 :=
  V_vret (tat ok_X2_find_1 (i := 8) (q := 95) rfl rfl) rfl (hr (I, L) (jx (P := P) kk rfl)) ⟨(Nat.le_of_ble_eq_true rfl), (Nat.le_of_ble_eq_true rfl)⟩
def F_X2_find_5 (I : WI) (L : WL) (o : Nat) (r1 : Nat) (r2 : Nat) (a3 : Int32) (a4 : Int32) : (WI × WL) :=
  (fun q : Int32 × (Int32 × WI × WL) => (F_X2_find_94 (p1 (p2 (p2 q))) (p2 (p2 (p2 q))) o r1 r2)) (fr0 (fun i x => (F_X2_find_12_1 (p1 (p2 x)) (p2 (p2 x)) o r1 r2 i (p1 x))) 8 (fu a4 8) a4 (a3, I, L))
theorem V_X2_find_5  {I : WI} {L : WL} {o : Nat} {r1 : Nat} {r2 : Nat} {a3 : Int32} {a4 : Int32} {P : (WI × WL) → Prop} {t : Tg} (ho : isX2 o) (hr1 : isX0 r1) (hr2 : isX0 r2) (hb3 : bz a3 = a3) (hb4 : bz a4 = a4) (hr : ∀ v, P v → t = (none, ly0, (p1 v), (p2 v), R0)) (kk : P (F_X2_find_5 I L o r1 r2 a3 a4)) : V (zM x_X2_find 6 0 0 t) 5 [(0, .ref o), (1, .ref r1), (2, .ref r2), (3, .int a3), (4, .int a4)] [] ly0 I L R0 0 0 :=
  V_fr0 (fun i x => (F_X2_find_12_1 (p1 (p2 x)) (p2 (p2 x)) o r1 r2 i (p1 x))) 8 (fun i x => V (zM x_X2_find 6 0 0 t) 5 [(0, .ref o), (1, .ref r1), (2, .ref r2), (3, .int (p1 x)), (4, .int i)] [] ly0 (p1 (p2 x)) (p2 (p2 x)) R0 0 0) (fun i x => P ((F_X2_find_94 (p1 (p2 x)) (p2 (p2 x)) o r1 r2))) (c := a4) (s := (a3, I, L)) (fun i x kx kb => V_iload (tat ok_X2_find_0 (i := 4) (q := 7) rfl rfl) 4 rfl <|
    V_bipush (tat ok_X2_find_0 (i := 5) (q := 9) rfl rfl) bp_8 <|
    V_icmp_ge (tat ok_X2_find_0 (i := 6) (q := 12) rfl rfl) rfl (fun c0 => V_pick [0, 1, 2] rfl (V_X2_find_94 ho hr1 hr2 hr (kx c0))) (fun c0 => V_X2_find_12_1 (P := (fun x => (fun i x => V (zM x_X2_find 6 0 0 t) 5 [(0, .ref o), (1, .ref r1), (2, .ref r2), (3, .int (p1 x)), (4, .int i)] [] ly0 (p1 (p2 x)) (p2 (p2 x)) R0 0 0) (i + 1) x)) ho hr1 hr2 (fun _ e => e) (kb c0))) kk
def F_X2_find (I : WI) (L : WL) (o : Nat) (r1 : Nat) (r2 : Nat) : (WI × WL) :=
  (F_X2_find_5 I L o r1 r2 0 0)
theorem V_X2_find  {I : WI} {L : WL} {o : Nat} {r1 : Nat} {r2 : Nat}  {P : (WI × WL) → Prop} {t : Tg} (ho : isX2 o) (hr1 : isX0 r1) (hr2 : isX0 r2) (hr : ∀ v, P v → t = (none, ly0, (p1 v), (p2 v), R0)) (kk : P (F_X2_find I L o r1 r2)) : V (zM x_X2_find 6 0 0 t) 0 [(0, .ref o), (1, .ref r1), (2, .ref r2)] [] ly0 I L R0 0 0 :=
  V_iconst (tat ok_X2_find_0 (i := 0) (q := 1) rfl rfl) ic_0 <|
    V_istore_n (lv' := [(3, .int 0), (0, .ref o), (1, .ref r1), (2, .ref r2)]) (tat ok_X2_find_0 (i := 1) (q := 2) rfl rfl) rfl (Nat.le_of_ble_eq_true rfl) rfl <|
    V_iconst (tat ok_X2_find_0 (i := 2) (q := 3) rfl rfl) ic_0 <|
    V_istore (lv' := [(4, .int 0), (3, .int 0), (0, .ref o), (1, .ref r1), (2, .ref r2)]) (tat ok_X2_find_0 (i := 3) (q := 5) rfl rfl) (Nat.le_of_ble_eq_true rfl) rfl <|
    V_pick [2, 3, 4, 1, 0] rfl (V_X2_find_5 ho hr1 hr2 rfl rfl hr (jx (P := P) kk rfl))
theorem ct_X2_find  (I : WI) (L : WL) (o : Nat) (r1 : Nat) (r2 : Nat) (ho : isX2 o) (hr1 : isX0 r1) (hr2 : isX0 r2) : Ct x_X2_find 6 [.ref o, .ref r1, .ref r2] ly0 I L R0 0 0 (none, ly0, (p1 (F_X2_find I L o r1 r2)), (p2 (F_X2_find I L o r1 r2)), R0) :=
  Ct_of_V mo_X2_find.1 (Nat.le_of_ble_eq_true rfl) (V_X2_find (P := fun x => x = (F_X2_find I L o r1 r2)) ho hr1 hr2 (fun _ e => by rw [e]) rfl)
def F_X2_sameAs_39 (I : WI) (L : WL) (o : Nat) (r1 : Nat) (s0 : Int32) : Int32 :=
  s0
theorem V_X2_sameAs_39  {I : WI} {L : WL} {o : Nat} {r1 : Nat} {s0 : Int32} {P : Int32 → Prop} {t : Tg} (ho : isX2 o) (hr1 : isX2 r1) (hs0 : bz s0 = s0) (hr : ∀ v, P v → t = (some (.int v), ly0, I, L, R0)) (kk : P (F_X2_sameAs_39 I L o r1 s0)) : V (zM x_X2_sameAs 1 0 0 t) 39 [(0, .ref o), (1, .ref r1)] [.int s0] ly0 I L R0 0 0 :=
  V_iret (tat ok_X2_sameAs_0 (i := 19) (q := 40) rfl rfl) _ rfl (bz_nf hs0).1 (hr s0 (jx (P := P) kk rfl)) ⟨(Nat.le_of_ble_eq_true rfl), (Nat.le_of_ble_eq_true rfl)⟩
def F_X2_sameAs_38 (I : WI) (L : WL) (o : Nat) (r1 : Nat) : Int32 :=
  (F_X2_sameAs_39 I L o r1 0)
theorem V_X2_sameAs_38  {I : WI} {L : WL} {o : Nat} {r1 : Nat}  {P : Int32 → Prop} {t : Tg} (ho : isX2 o) (hr1 : isX2 r1) (hr : ∀ v, P v → t = (some (.int v), ly0, I, L, R0)) (kk : P (F_X2_sameAs_38 I L o r1)) : V (zM x_X2_sameAs 1 0 0 t) 38 [(0, .ref o), (1, .ref r1)] [] ly0 I L R0 0 0 :=
  V_iconst (tat ok_X2_sameAs_0 (i := 18) (q := 39) rfl rfl) ic_0 <|
    V_X2_sameAs_39 ho hr1 rfl hr (jx (P := P) kk rfl)
def F_X2_sameAs (I : WI) (L : WL) (o : Nat) (r1 : Nat) : Int32 :=
  (if (I o 0) = (I r1 0) then (if (I o 1) = (I r1 1) then (if (lg_cmp (L o 2) (L r1 2)) = 0 then (F_X2_sameAs_39 I L o r1 1) else (F_X2_sameAs_38 I L o r1)) else (F_X2_sameAs_38 I L o r1)) else (F_X2_sameAs_38 I L o r1))
theorem V_X2_sameAs  {I : WI} {L : WL} {o : Nat} {r1 : Nat}  {P : Int32 → Prop} {t : Tg} (ho : isX2 o) (hr1 : isX2 r1) (hr : ∀ v, P v → t = (some (.int v), ly0, I, L, R0)) (kk : P (F_X2_sameAs I L o r1)) : V (zM x_X2_sameAs 1 0 0 t) 0 [(0, .ref o), (1, .ref r1)] [] ly0 I L R0 0 0 :=
  V_aload_n (tat ok_X2_sameAs_0 (i := 0) (q := 1) rfl rfl) 0 rfl rfl <|
    V_getI (tat ok_X2_sameAs_0 (i := 1) (q := 4) rfl rfl) fk_X2_42 ho <|
    V_aload_n (tat ok_X2_sameAs_0 (i := 2) (q := 5) rfl rfl) 1 rfl rfl <|
    V_getI (tat ok_X2_sameAs_0 (i := 3) (q := 8) rfl rfl) fk_X2_42 hr1 <|
    V_icmp_ne (tat ok_X2_sameAs_0 (i := 4) (q := 11) rfl rfl) rfl (fun c1 => V_X2_sameAs_38 ho hr1 hr (jx (P := P) kk (if_neg c1))) (fun c1 => V_aload_n (tat ok_X2_sameAs_0 (i := 5) (q := 12) rfl rfl) 0 rfl rfl <|
    V_getI (tat ok_X2_sameAs_0 (i := 6) (q := 15) rfl rfl) fk_X2_43 ho <|
    V_aload_n (tat ok_X2_sameAs_0 (i := 7) (q := 16) rfl rfl) 1 rfl rfl <|
    V_getI (tat ok_X2_sameAs_0 (i := 8) (q := 19) rfl rfl) fk_X2_43 hr1 <|
    V_icmp_ne (tat ok_X2_sameAs_0 (i := 9) (q := 22) rfl rfl) rfl (fun c2 => V_X2_sameAs_38 ho hr1 hr (jx (P := P) kk (Eq.trans (if_pos c1) (if_neg c2)))) (fun c2 => V_aload_n (tat ok_X2_sameAs_0 (i := 10) (q := 23) rfl rfl) 0 rfl rfl <|
    V_getL (tat ok_X2_sameAs_0 (i := 11) (q := 26) rfl rfl) fk_X2_34 ho <|
    V_aload_n (tat ok_X2_sameAs_0 (i := 12) (q := 27) rfl rfl) 1 rfl rfl <|
    V_getL (tat ok_X2_sameAs_0 (i := 13) (q := 30) rfl rfl) fk_X2_34 hr1 <|
    V_lcmp (tat ok_X2_sameAs_0 (i := 14) (q := 31) rfl rfl) <|
    V_if_ne (tat ok_X2_sameAs_0 (i := 15) (q := 34) rfl rfl) rfl (fun c3 => V_X2_sameAs_38 ho hr1 hr (jx (P := P) kk (Eq.trans (if_pos c1) (Eq.trans (if_pos c2) (if_neg c3))))) (fun c3 => V_iconst (tat ok_X2_sameAs_0 (i := 16) (q := 35) rfl rfl) ic_1 <|
    V_goto (tat ok_X2_sameAs_0 (i := 17) (q := 38) rfl rfl) rfl <|
    V_X2_sameAs_39 ho hr1 rfl hr (jx (P := P) kk (Eq.trans (if_pos c1) (Eq.trans (if_pos c2) (if_pos c3)))))))
theorem ct_X2_sameAs  (I : WI) (L : WL) (o : Nat) (r1 : Nat) (ho : isX2 o) (hr1 : isX2 r1) : Ct x_X2_sameAs 1 [.ref o, .ref r1] ly0 I L R0 0 0 (some (.int (F_X2_sameAs I L o r1)), ly0, I, L, R0) :=
  Ct_of_V mo_X2_sameAs.1 (Nat.le_of_ble_eq_true rfl) (V_X2_sameAs (P := fun x => x = (F_X2_sameAs I L o r1)) ho hr1 (fun _ e => by rw [e]) rfl)
def F_X3_isNothing_12 (I : WI) (o : Nat) (s0 : Int32) : Int32 :=
  s0
theorem V_X3_isNothing_12  {I : WI} {L : WL} {o : Nat} {s0 : Int32} {P : Int32 → Prop} {t : Tg} (ho : isX3 o) (hs0 : bz s0 = s0) (hr : ∀ v, P v → t = (some (.int v), ly0, I, L, R0)) (kk : P (F_X3_isNothing_12 I o s0)) : V (zM x_X3_isNothing 1 0 0 t) 12 [(0, .ref o)] [.int s0] ly0 I L R0 0 0 :=
  V_iret (tat ok_X3_isNothing_0 (i := 6) (q := 13) rfl rfl) _ rfl (bz_nf hs0).1 (hr s0 (jx (P := P) kk rfl)) ⟨(Nat.le_of_ble_eq_true rfl), (Nat.le_of_ble_eq_true rfl)⟩
def F_X3_isNothing (I : WI) (o : Nat) : Int32 :=
  (if 0 ≤ (I o 0) then (F_X3_isNothing_12 I o 0) else (F_X3_isNothing_12 I o 1))
theorem V_X3_isNothing  {I : WI} {L : WL} {o : Nat}  {P : Int32 → Prop} {t : Tg} (ho : isX3 o) (hr : ∀ v, P v → t = (some (.int v), ly0, I, L, R0)) (kk : P (F_X3_isNothing I o)) : V (zM x_X3_isNothing 1 0 0 t) 0 [(0, .ref o)] [] ly0 I L R0 0 0 :=
  V_aload_n (tat ok_X3_isNothing_0 (i := 0) (q := 1) rfl rfl) 0 rfl rfl <|
    V_getI (tat ok_X3_isNothing_0 (i := 1) (q := 4) rfl rfl) fk_X3_9 ho.1 <|
    V_if_ge (tat ok_X3_isNothing_0 (i := 2) (q := 7) rfl rfl) rfl (fun c1 => V_iconst (tat ok_X3_isNothing_0 (i := 5) (q := 12) rfl rfl) ic_0 <|
    V_X3_isNothing_12 ho rfl hr (jx (P := P) kk (if_pos c1))) (fun c1 => V_iconst (tat ok_X3_isNothing_0 (i := 3) (q := 8) rfl rfl) ic_1 <|
    V_goto (tat ok_X3_isNothing_0 (i := 4) (q := 11) rfl rfl) rfl <|
    V_X3_isNothing_12 ho rfl hr (jx (P := P) kk (if_neg c1)))
theorem ct_X3_isNothing  (I : WI) (L : WL) (o : Nat) (ho : isX3 o) : Ct x_X3_isNothing 1 [.ref o] ly0 I L R0 0 0 (some (.int (F_X3_isNothing I o)), ly0, I, L, R0) :=
  Ct_of_V mo_X3_isNothing.1 (Nat.le_of_ble_eq_true rfl) (V_X3_isNothing (P := fun x => x = (F_X3_isNothing I o)) ho (fun _ e => by rw [e]) rfl)
def F_X3_renew_21_1 (I : WI) (o : Nat) (a1 : Int32) (a2 : Int32) (a3 : Int32) : Option WI :=
  (if a3 < 0 ∨ 40 ≤ Int32.toNatClampNeg a3 then none else some (u2 I (o + 1) (Int32.toNatClampNeg a3) 0))
theorem V_X3_renew_21_1  {I : WI} {L : WL} {o : Nat} {a1 : Int32} {a2 : Int32} {a3 : Int32}  {P : WI → Prop} {t : Tg} (ho : isX3 o) (hk : ∀ x : WI, P x → V (zM x_X3_renew 1 0 0 t) 12 [(0, .ref o), (1, .int a1), (2, .int a2), (3, .int (a3 + 1))] [] ly0 x L R0 0 0) (kk : oP P (F_X3_renew_21_1 I o a1 a2 a3)) : V (zM x_X3_renew 1 0 0 t) 21 [(0, .ref o), (1, .int a1), (2, .int a2), (3, .int a3)] [] ly0 I L R0 0 0 :=
  V_aload_n (tat ok_X3_renew_0 (i := 13) (q := 22) rfl rfl) 0 rfl rfl <|
    V_getR (tat ok_X3_renew_0 (i := 14) (q := 25) rfl rfl) fk_X3_15 ho.1 ho.2.1 <|
    V_iload_n (tat ok_X3_renew_0 (i := 15) (q := 26) rfl rfl) 3 rfl rfl <|
    V_iconst (tat ok_X3_renew_0 (i := 16) (q := 27) rfl rfl) ic_0 <|
    (if c1 : a3 < 0 ∨ 40 ≤ Int32.toNatClampNeg a3 then ((jx (P := oP P) kk (if_pos c1))).elim else V_iast (tat ok_X3_renew_0 (i := 17) (q := 28) rfl rfl) ho.2.2 c1 <|
    V_iinc (v := (a3 + 1)) (lv' := [(3, .int (a3 + 1)), (0, .ref o), (1, .int a1), (2, .int a2)]) (tat ok_X3_renew_0 (i := 18) (q := 31) rfl rfl) 3 rfl (ia ic_1) (Nat.le_of_ble_eq_true rfl) rfl <|
    V_goto (tat ok_X3_renew_0 (i := 19) (q := 34) rfl rfl) rfl <|
    V_pick [1, 2, 3, 0] rfl (hk (u2 I (o + 1) (Int32.toNatClampNeg a3) 0) (jx (P := oP P) kk (if_neg c1))))
def F_X3_renew_34 (I : WI) (o : Nat) (a1 : Int32) (a2 : Int32) : Option WI :=
  some I
theorem V_X3_renew_34  {I : WI} {L : WL} {o : Nat} {a1 : Int32} {a2 : Int32}  {P : WI → Prop} {t : Tg} (ho : isX3 o) (hr : ∀ v, P v → t = (none, ly0, v, L, R0)) (kk : oP P (F_X3_renew_34 I o a1 a2)) : V (zM x_X3_renew 1 0 0 t) 34 [(0, .ref o), (1, .int a1), (2, .int a2)] [] ly0 I L R0 0 0 :=
  V_vret (tat ok_X3_renew_0 (i := 20) (q := 35) rfl rfl) rfl (hr I (jx (P := oP P) kk rfl)) ⟨(Nat.le_of_ble_eq_true rfl), (Nat.le_of_ble_eq_true rfl)⟩
def F_X3_renew_12 (I : WI) (o : Nat) (a1 : Int32) (a2 : Int32) (a3 : Int32) : Option WI :=
  (frp0 (fun i x => (F_X3_renew_21_1 x o a1 a2 i)) 40 (fu a3 40) a3 I).bind (fun q => (F_X3_renew_34 (p2 q) o a1 a2))
theorem V_X3_renew_12  {I : WI} {L : WL} {o : Nat} {a1 : Int32} {a2 : Int32} {a3 : Int32} {P : WI → Prop} {t : Tg} (ho : isX3 o) (hb3 : bz a3 = a3) (hr : ∀ v, P v → t = (none, ly0, v, L, R0)) (kk : oP P (F_X3_renew_12 I o a1 a2 a3)) : V (zM x_X3_renew 1 0 0 t) 12 [(0, .ref o), (1, .int a1), (2, .int a2), (3, .int a3)] [] ly0 I L R0 0 0 :=
  V_frp0 (fun i x => (F_X3_renew_21_1 x o a1 a2 i)) 40 (fun i x => V (zM x_X3_renew 1 0 0 t) 12 [(0, .ref o), (1, .int a1), (2, .int a2), (3, .int i)] [] ly0 x L R0 0 0) (fun i x => oP P ((F_X3_renew_34 x o a1 a2))) (c := a3) (s := I) (fun i x kx kb => V_iload_n (tat ok_X3_renew_0 (i := 8) (q := 13) rfl rfl) 3 rfl rfl <|
    V_aload_n (tat ok_X3_renew_0 (i := 9) (q := 14) rfl rfl) 0 rfl rfl <|
    V_getR (tat ok_X3_renew_0 (i := 10) (q := 17) rfl rfl) fk_X3_15 ho.1 ho.2.1 <|
    V_alen (tat ok_X3_renew_0 (i := 11) (q := 18) rfl rfl) ho.2.2 ⟨by decide, by decide⟩ nl_40 <|
    V_icmp_ge (tat ok_X3_renew_0 (i := 12) (q := 21) rfl rfl) rfl (fun c0 => V_pick [0, 1, 2] rfl (V_X3_renew_34 ho hr (kx c0))) (fun c0 => V_X3_renew_21_1 (P := (fun x => (fun i x => V (zM x_X3_renew 1 0 0 t) 12 [(0, .ref o), (1, .int a1), (2, .int a2), (3, .int i)] [] ly0 x L R0 0 0) (i + 1) x)) ho (fun _ e => e) (kb c0))) (oP_bind (f := fun q => _) kk)
def F_X3_renew (I : WI) (o : Nat) (a1 : Int32) (a2 : Int32) : Option WI :=
  (F_X3_renew_12 (u2 (u2 I o 1 a1) o 0 a2) o a1 a2 0)
theorem V_X3_renew  {I : WI} {L : WL} {o : Nat} {a1 : Int32} {a2 : Int32}  {P : WI → Prop} {t : Tg} (ho : isX3 o) (hr : ∀ v, P v → t = (none, ly0, v, L, R0)) (kk : oP P (F_X3_renew I o a1 a2)) : V (zM x_X3_renew 1 0 0 t) 0 [(0, .ref o), (1, .int a1), (2, .int a2)] [] ly0 I L R0 0 0 :=
  V_aload_n (tat ok_X3_renew_0 (i := 0) (q := 1) rfl rfl) 0 rfl rfl <|
    V_iload_n (tat ok_X3_renew_0 (i := 1) (q := 2) rfl rfl) 1 rfl rfl <|
    V_putI (tat ok_X3_renew_0 (i := 2) (q := 5) rfl rfl) fk_X3_19 ho.1 rfl <|
    V_aload_n (tat ok_X3_renew_0 (i := 3) (q := 6) rfl rfl) 0 rfl rfl <|
    V_iload_n (tat ok_X3_renew_0 (i := 4) (q := 7) rfl rfl) 2 rfl rfl <|
    V_putI (tat ok_X3_renew_0 (i := 5) (q := 10) rfl rfl) fk_X3_9 ho.1 rfl <|
    V_iconst (tat ok_X3_renew_0 (i := 6) (q := 11) rfl rfl) ic_0 <|
    V_istore_n (lv' := [(3, .int 0), (0, .ref o), (1, .int a1), (2, .int a2)]) (tat ok_X3_renew_0 (i := 7) (q := 12) rfl rfl) rfl (Nat.le_of_ble_eq_true rfl) rfl <|
    V_pick [1, 2, 3, 0] rfl (V_X3_renew_12 ho rfl hr (jx (P := oP P) kk rfl))
theorem ct_X3_renew  (I : WI) (L : WL) (o : Nat) (a1 : Int32) (a2 : Int32) (ho : isX3 o) {v : WI} (h : (F_X3_renew I o a1 a2) = some v) : Ct x_X3_renew 1 [.ref o, .int a1, .int a2] ly0 I L R0 0 0 (none, ly0, v, L, R0) :=
  Ct_of_V mo_X3_renew.1 (Nat.le_of_ble_eq_true rfl) (V_X3_renew (P := fun x => x = v) ho (fun _ e => by rw [e]) (by rw [h]; exact rfl))
def F_X3_put_21 (I : WI) (o : Nat) (a1 : Int32) (a2 : Int32) : Option (Int32 × WI) :=
  some (0, I)
theorem V_X3_put_21  {I : WI} {L : WL} {o : Nat} {a1 : Int32} {a2 : Int32}  {P : (Int32 × WI) → Prop} {t : Tg} (ho : isX3 o) (hr : ∀ v, P v → t = (some (.int (p1 v)), ly0, (p2 v), L, R0)) (kk : oP P (F_X3_put_21 I o a1 a2)) : V (zM x_X3_put 1 0 0 t) 21 [(0, .ref o), (1, .int a1), (2, .int a2)] [] ly0 I L R0 0 0 :=
  V_iconst (tat ok_X3_put_0 (i := 11) (q := 22) rfl rfl) ic_0 <|
    V_iret (tat ok_X3_put_0 (i := 12) (q := 23) rfl rfl) _ rfl rfl (hr (0, I) (jx (P := oP P) kk rfl)) ⟨(Nat.le_of_ble_eq_true rfl), (Nat.le_of_ble_eq_true rfl)⟩
def F_X3_put_61 (I : WI) (o : Nat) (a1 : Int32) (a2 : Int32) : Option (Int32 × WI) :=
  some (1, I)
theorem V_X3_put_61  {I : WI} {L : WL} {o : Nat} {a1 : Int32} {a2 : Int32}  {P : (Int32 × WI) → Prop} {t : Tg} (ho : isX3 o) (hr : ∀ v, P v → t = (some (.int (p1 v)), ly0, (p2 v), L, R0)) (kk : oP P (F_X3_put_61 I o a1 a2)) : V (zM x_X3_put 1 0 0 t) 61 [(0, .ref o), (1, .int a1), (2, .int a2)] [] ly0 I L R0 0 0 :=
  V_iconst (tat ok_X3_put_0 (i := 35) (q := 62) rfl rfl) ic_1 <|
    V_iret (tat ok_X3_put_0 (i := 36) (q := 63) rfl rfl) _ rfl rfl (hr (1, I) (jx (P := oP P) kk rfl)) ⟨(Nat.le_of_ble_eq_true rfl), (Nat.le_of_ble_eq_true rfl)⟩
def F_X3_put_60 (I : WI) (o : Nat) (a1 : Int32) (a2 : Int32) (s0 : Int32) (s1 : Int32) : Option (Int32 × WI) :=
  (if s1 < 0 ∨ 40 ≤ Int32.toNatClampNeg s1 then none else (F_X3_put_61 (u2 I (o + 1) (Int32.toNatClampNeg s1) s0) o a1 a2))
theorem V_X3_put_60  {I : WI} {L : WL} {o : Nat} {a1 : Int32} {a2 : Int32} {s0 : Int32} {s1 : Int32} {P : (Int32 × WI) → Prop} {t : Tg} (ho : isX3 o) (hr : ∀ v, P v → t = (some (.int (p1 v)), ly0, (p2 v), L, R0)) (kk : oP P (F_X3_put_60 I o a1 a2 s0 s1)) : V (zM x_X3_put 1 0 0 t) 60 [(0, .ref o), (1, .int a1), (2, .int a2)] [.int s0, .int s1, .ref (o + 1)] ly0 I L R0 0 0 :=
  (if c7 : s1 < 0 ∨ 40 ≤ Int32.toNatClampNeg s1 then ((jx (P := oP P) kk (if_pos c7))).elim else V_iast (tat ok_X3_put_0 (i := 34) (q := 61) rfl rfl) ho.2.2 c7 <|
    V_X3_put_61 ho hr (jx (P := oP P) kk (if_neg c7)))
def F_X3_put (I : WI) (o : Nat) (a1 : Int32) (a2 : Int32) : Option (Int32 × WI) :=
  (if a1 < 0 then (F_X3_put_21 I o a1 a2) else (if (I o 0) ≤ a1 then (F_X3_put_21 I o a1 a2) else (if a1 < 40 then (if (I o 1) = 0 then (if a1 < 0 ∨ 40 ≤ Int32.toNatClampNeg a1 then none else (F_X3_put_61 (u2 I (o + 1) (Int32.toNatClampNeg a1) (Int8.toInt32 (Int32.toInt8 a2))) o a1 a2)) else (if (I o 1) = 1 then (F_X3_put_60 I o a1 a2 (Int16.toInt32 (Int32.toInt16 a2)) a1) else (F_X3_put_60 I o a1 a2 a2 a1))) else (F_X3_put_21 I o a1 a2))))
theorem V_X3_put  {I : WI} {L : WL} {o : Nat} {a1 : Int32} {a2 : Int32}  {P : (Int32 × WI) → Prop} {t : Tg} (ho : isX3 o) (hr : ∀ v, P v → t = (some (.int (p1 v)), ly0, (p2 v), L, R0)) (kk : oP P (F_X3_put I o a1 a2)) : V (zM x_X3_put 1 0 0 t) 0 [(0, .ref o), (1, .int a1), (2, .int a2)] [] ly0 I L R0 0 0 :=
  V_iload_n (tat ok_X3_put_0 (i := 0) (q := 1) rfl rfl) 1 rfl rfl <|
    V_if_lt (tat ok_X3_put_0 (i := 1) (q := 4) rfl rfl) rfl (fun c1 => V_X3_put_21 ho hr (jx (P := oP P) kk (if_pos c1))) (fun c1 => V_iload_n (tat ok_X3_put_0 (i := 2) (q := 5) rfl rfl) 1 rfl rfl <|
    V_aload_n (tat ok_X3_put_0 (i := 3) (q := 6) rfl rfl) 0 rfl rfl <|
    V_getI (tat ok_X3_put_0 (i := 4) (q := 9) rfl rfl) fk_X3_9 ho.1 <|
    V_icmp_ge (tat ok_X3_put_0 (i := 5) (q := 12) rfl rfl) rfl (fun c2 => V_X3_put_21 ho hr (jx (P := oP P) kk (Eq.trans (if_neg c1) (if_pos c2)))) (fun c2 => V_iload_n (tat ok_X3_put_0 (i := 6) (q := 13) rfl rfl) 1 rfl rfl <|
    V_aload_n (tat ok_X3_put_0 (i := 7) (q := 14) rfl rfl) 0 rfl rfl <|
    V_getR (tat ok_X3_put_0 (i := 8) (q := 17) rfl rfl) fk_X3_15 ho.1 ho.2.1 <|
    V_alen (tat ok_X3_put_0 (i := 9) (q := 18) rfl rfl) ho.2.2 ⟨by decide, by decide⟩ nl_40 <|
    V_icmp_lt (tat ok_X3_put_0 (i := 10) (q := 21) rfl rfl) rfl (fun c3 => V_aload_n (tat ok_X3_put_0 (i := 13) (q := 24) rfl rfl) 0 rfl rfl <|
    V_getI (tat ok_X3_put_0 (i := 14) (q := 27) rfl rfl) fk_X3_19 ho.1 <|
    V_if_ne (tat ok_X3_put_0 (i := 15) (q := 30) rfl rfl) rfl (fun c4 => V_aload_n (tat ok_X3_put_0 (i := 23) (q := 42) rfl rfl) 0 rfl rfl <|
    V_getR (tat ok_X3_put_0 (i := 24) (q := 45) rfl rfl) fk_X3_15 ho.1 ho.2.1 <|
    V_iload_n (tat ok_X3_put_0 (i := 25) (q := 46) rfl rfl) 1 rfl rfl <|
    V_aload_n (tat ok_X3_put_0 (i := 26) (q := 47) rfl rfl) 0 rfl rfl <|
    V_getI (tat ok_X3_put_0 (i := 27) (q := 50) rfl rfl) fk_X3_19 ho.1 <|
    V_iconst (tat ok_X3_put_0 (i := 28) (q := 51) rfl rfl) ic_1 <|
    V_icmp_ne (tat ok_X3_put_0 (i := 29) (q := 54) rfl rfl) rfl (fun c6 => V_iload_n (tat ok_X3_put_0 (i := 33) (q := 60) rfl rfl) 2 rfl rfl <|
    V_X3_put_60 ho hr (jx (P := oP P) kk (Eq.trans (if_neg c1) (Eq.trans (if_neg c2) (Eq.trans (if_pos c3) (Eq.trans (if_neg c4) (if_neg c6))))))) (fun c6 => V_iload_n (tat ok_X3_put_0 (i := 30) (q := 55) rfl rfl) 2 rfl rfl <|
    V_i2s (tat ok_X3_put_0 (i := 31) (q := 56) rfl rfl) <|
    V_goto (tat ok_X3_put_0 (i := 32) (q := 59) rfl rfl) rfl <|
    V_X3_put_60 ho hr (jx (P := oP P) kk (Eq.trans (if_neg c1) (Eq.trans (if_neg c2) (Eq.trans (if_pos c3) (Eq.trans (if_neg c4) (if_pos c6)))))))) (fun c4 => V_aload_n (tat ok_X3_put_0 (i := 16) (q := 31) rfl rfl) 0 rfl rfl <|
    V_getR (tat ok_X3_put_0 (i := 17) (q := 34) rfl rfl) fk_X3_15 ho.1 ho.2.1 <|
    V_iload_n (tat ok_X3_put_0 (i := 18) (q := 35) rfl rfl) 1 rfl rfl <|
    V_iload_n (tat ok_X3_put_0 (i := 19) (q := 36) rfl rfl) 2 rfl rfl <|
    V_i2b (tat ok_X3_put_0 (i := 20) (q := 37) rfl rfl) <|
    (if c5 : a1 < 0 ∨ 40 ≤ Int32.toNatClampNeg a1 then ((jx (P := oP P) kk (Eq.trans (if_neg c1) (Eq.trans (if_neg c2) (Eq.trans (if_pos c3) (Eq.trans (if_pos c4) (if_pos c5))))))).elim else V_iast (tat ok_X3_put_0 (i := 21) (q := 38) rfl rfl) ho.2.2 c5 <|
    V_goto (tat ok_X3_put_0 (i := 22) (q := 41) rfl rfl) rfl <|
    V_X3_put_61 ho hr (jx (P := oP P) kk (Eq.trans (if_neg c1) (Eq.trans (if_neg c2) (Eq.trans (if_pos c3) (Eq.trans (if_pos c4) (if_neg c5))))))))) (fun c3 => V_X3_put_21 ho hr (jx (P := oP P) kk (Eq.trans (if_neg c1) (Eq.trans (if_neg c2) (if_neg c3)))))))
theorem ct_X3_put  (I : WI) (L : WL) (o : Nat) (a1 : Int32) (a2 : Int32) (ho : isX3 o) {v : (Int32 × WI)} (h : (F_X3_put I o a1 a2) = some v) : Ct x_X3_put 1 [.ref o, .int a1, .int a2] ly0 I L R0 0 0 (some (.int (p1 v)), ly0, (p2 v), L, R0) :=
  Ct_of_V mo_X3_put.1 (Nat.le_of_ble_eq_true rfl) (V_X3_put (P := fun x => x = v) ho (fun _ e => by rw [e]) (by rw [h]; exact rfl))
def F_X3_cell_31 (I : WI) (o : Nat) (a1 : Int32) (s0 : Int32) : Int32 :=
  s0
theorem V_X3_cell_31  {I : WI} {L : WL} {o : Nat} {a1 : Int32} {s0 : Int32} {P : Int32 → Prop} {t : Tg} (ho : isX3 o) (hr : ∀ v, P v → t = (some (.int v), ly0, I, L, R0)) (kk : P (F_X3_cell_31 I o a1 s0)) : V (zM x_X3_cell 1 0 0 t) 31 [(0, .ref o), (1, .int a1)] [.int s0] ly0 I L R0 0 0 :=
  V_iret (tat ok_X3_cell_0 (i := 17) (q := 32) rfl rfl) _ rfl (nar_int _) (hr s0 (jx (P := P) kk rfl)) ⟨(Nat.le_of_ble_eq_true rfl), (Nat.le_of_ble_eq_true rfl)⟩
def F_X3_cell_30 (I : WI) (o : Nat) (a1 : Int32) : Int32 :=
  (F_X3_cell_31 I o a1 0)
theorem V_X3_cell_30  {I : WI} {L : WL} {o : Nat} {a1 : Int32}  {P : Int32 → Prop} {t : Tg} (ho : isX3 o) (hr : ∀ v, P v → t = (some (.int v), ly0, I, L, R0)) (kk : P (F_X3_cell_30 I o a1)) : V (zM x_X3_cell 1 0 0 t) 30 [(0, .ref o), (1, .int a1)] [] ly0 I L R0 0 0 :=
  V_iconst (tat ok_X3_cell_0 (i := 16) (q := 31) rfl rfl) ic_0 <|
    V_X3_cell_31 ho hr (jx (P := P) kk rfl)
def F_X3_cell (I : WI) (o : Nat) (a1 : Int32) : Int32 :=
  (if a1 < 0 then (F_X3_cell_30 I o a1) else (if (I o 0) ≤ a1 then (F_X3_cell_30 I o a1) else (if 40 ≤ a1 then (F_X3_cell_30 I o a1) else (F_X3_cell_31 I o a1 (I (o + 1) (Int32.toNatClampNeg a1))))))
theorem V_X3_cell  {I : WI} {L : WL} {o : Nat} {a1 : Int32}  {P : Int32 → Prop} {t : Tg} (ho : isX3 o) (hr : ∀ v, P v → t = (some (.int v), ly0, I, L, R0)) (kk : P (F_X3_cell I o a1)) : V (zM x_X3_cell 1 0 0 t) 0 [(0, .ref o), (1, .int a1)] [] ly0 I L R0 0 0 :=
  V_iload_n (tat ok_X3_cell_0 (i := 0) (q := 1) rfl rfl) 1 rfl rfl <|
    V_if_lt (tat ok_X3_cell_0 (i := 1) (q := 4) rfl rfl) rfl (fun c1 => V_X3_cell_30 ho hr (jx (P := P) kk (if_pos c1))) (fun c1 => V_iload_n (tat ok_X3_cell_0 (i := 2) (q := 5) rfl rfl) 1 rfl rfl <|
    V_aload_n (tat ok_X3_cell_0 (i := 3) (q := 6) rfl rfl) 0 rfl rfl <|
    V_getI (tat ok_X3_cell_0 (i := 4) (q := 9) rfl rfl) fk_X3_9 ho.1 <|
    V_icmp_ge (tat ok_X3_cell_0 (i := 5) (q := 12) rfl rfl) rfl (fun c2 => V_X3_cell_30 ho hr (jx (P := P) kk (Eq.trans (if_neg c1) (if_pos c2)))) (fun c2 => V_iload_n (tat ok_X3_cell_0 (i := 6) (q := 13) rfl rfl) 1 rfl rfl <|
    V_aload_n (tat ok_X3_cell_0 (i := 7) (q := 14) rfl rfl) 0 rfl rfl <|
    V_getR (tat ok_X3_cell_0 (i := 8) (q := 17) rfl rfl) fk_X3_15 ho.1 ho.2.1 <|
    V_alen (tat ok_X3_cell_0 (i := 9) (q := 18) rfl rfl) ho.2.2 ⟨by decide, by decide⟩ nl_40 <|
    V_icmp_ge (tat ok_X3_cell_0 (i := 10) (q := 21) rfl rfl) rfl (fun c3 => V_X3_cell_30 ho hr (jx (P := P) kk (Eq.trans (if_neg c1) (Eq.trans (if_neg c2) (if_pos c3))))) (fun c3 => V_aload_n (tat ok_X3_cell_0 (i := 11) (q := 22) rfl rfl) 0 rfl rfl <|
    V_getR (tat ok_X3_cell_0 (i := 12) (q := 25) rfl rfl) fk_X3_15 ho.1 ho.2.1 <|
    V_iload_n (tat ok_X3_cell_0 (i := 13) (q := 26) rfl rfl) 1 rfl rfl <|
    V_iald (tat ok_X3_cell_0 (i := 14) (q := 27) rfl rfl) ho.2.2 (vpin ti_40 c1 c3) <|
    V_goto (tat ok_X3_cell_0 (i := 15) (q := 30) rfl rfl) rfl <|
    V_X3_cell_31 ho hr (jx (P := P) kk (Eq.trans (if_neg c1) (Eq.trans (if_neg c2) (if_neg c3)))))))
theorem ct_X3_cell  (I : WI) (L : WL) (o : Nat) (a1 : Int32) (ho : isX3 o) : Ct x_X3_cell 1 [.ref o, .int a1] ly0 I L R0 0 0 (some (.int (F_X3_cell I o a1)), ly0, I, L, R0) :=
  Ct_of_V mo_X3_cell.1 (Nat.le_of_ble_eq_true rfl) (V_X3_cell (P := fun x => x = (F_X3_cell I o a1)) ho (fun _ e => by rw [e]) rfl)
def F_X3_faultOfLane_22 (I : WI) (o : Nat) (a1 : Int32) (s0 : Int32) : Int32 :=
  s0
theorem V_X3_faultOfLane_22  {I : WI} {L : WL} {o : Nat} {a1 : Int32} {s0 : Int32} {P : Int32 → Prop} {t : Tg} (ho : isX3 o) (hr : ∀ v, P v → t = (some (.int v), ly0, I, L, R0)) (kk : P (F_X3_faultOfLane_22 I o a1 s0)) : V (zM x_X3_faultOfLane 2 0 0 t) 22 [(0, .ref o), (1, .int a1)] [.int s0] ly0 I L R0 0 0 :=
  V_iret (tat ok_X3_faultOfLane_0 (i := 12) (q := 23) rfl rfl) _ rfl (nar_int _) (hr s0 (jx (P := P) kk rfl)) ⟨(Nat.le_of_ble_eq_true rfl), (Nat.le_of_ble_eq_true rfl)⟩
def F_X3_faultOfLane (I : WI) (o : Nat) (a1 : Int32) : Int32 :=
  (if (F_X3_isNothing I o) = 0 then (if (I o 1) = a1 then (F_X3_faultOfLane_22 I o a1 0) else (F_X3_faultOfLane_22 I o a1 3)) else 1)
theorem V_X3_faultOfLane  {I : WI} {L : WL} {o : Nat} {a1 : Int32}  {P : Int32 → Prop} {t : Tg} (ho : isX3 o) (hr : ∀ v, P v → t = (some (.int v), ly0, I, L, R0)) (kk : P (F_X3_faultOfLane I o a1)) : V (zM x_X3_faultOfLane 2 0 0 t) 0 [(0, .ref o), (1, .int a1)] [] ly0 I L R0 0 0 :=
  V_aload_n (tat ok_X3_faultOfLane_0 (i := 0) (q := 1) rfl rfl) 0 rfl rfl <|
    V_cv0 (ct_X3_isNothing I L o ho) mo_X3_isNothing (tat ok_X3_faultOfLane_0 (i := 1) (q := 4) rfl rfl) ml_X3_22 ho.1 ⟨by decide, _, rfl, rfl⟩ ⟨(Nat.le_of_ble_eq_true rfl), (Nat.le_of_ble_eq_true rfl)⟩ ⟨(Nat.le_of_ble_eq_true rfl), (Nat.le_of_ble_eq_true rfl)⟩ (Nat.le_of_ble_eq_true rfl) <|
    V_if_eq (tat ok_X3_faultOfLane_0 (i := 2) (q := 7) rfl rfl) rfl (fun c1 => V_aload_n (tat ok_X3_faultOfLane_0 (i := 5) (q := 10) rfl rfl) 0 rfl rfl <|
    V_getI (tat ok_X3_faultOfLane_0 (i := 6) (q := 13) rfl rfl) fk_X3_19 ho.1 <|
    V_iload_n (tat ok_X3_faultOfLane_0 (i := 7) (q := 14) rfl rfl) 1 rfl rfl <|
    V_icmp_ne (tat ok_X3_faultOfLane_0 (i := 8) (q := 17) rfl rfl) rfl (fun c2 => V_iconst (tat ok_X3_faultOfLane_0 (i := 11) (q := 22) rfl rfl) ic_3 <|
    V_X3_faultOfLane_22 ho hr (jx (P := P) kk (Eq.trans (if_pos c1) (if_neg c2)))) (fun c2 => V_iconst (tat ok_X3_faultOfLane_0 (i := 9) (q := 18) rfl rfl) ic_0 <|
    V_goto (tat ok_X3_faultOfLane_0 (i := 10) (q := 21) rfl rfl) rfl <|
    V_X3_faultOfLane_22 ho hr (jx (P := P) kk (Eq.trans (if_pos c1) (if_pos c2))))) (fun c1 => V_iconst (tat ok_X3_faultOfLane_0 (i := 3) (q := 8) rfl rfl) ic_1 <|
    V_iret (tat ok_X3_faultOfLane_0 (i := 4) (q := 9) rfl rfl) _ rfl (nar_int _) (hr 1 (jx (P := P) kk (if_neg c1))) ⟨(Nat.le_of_ble_eq_true rfl), (Nat.le_of_ble_eq_true rfl)⟩)
theorem ct_X3_faultOfLane  (I : WI) (L : WL) (o : Nat) (a1 : Int32) (ho : isX3 o) : Ct x_X3_faultOfLane 2 [.ref o, .int a1] ly0 I L R0 0 0 (some (.int (F_X3_faultOfLane I o a1)), ly0, I, L, R0) :=
  Ct_of_V mo_X3_faultOfLane.1 (Nat.le_of_ble_eq_true rfl) (V_X3_faultOfLane (P := fun x => x = (F_X3_faultOfLane I o a1)) ho (fun _ e => by rw [e]) rfl)
def F_X3_pairsFrom_24 (I : WI) (o : Nat) (a1 : Int32) (s0 : Int32) : Int32 :=
  s0
theorem V_X3_pairsFrom_24  {I : WI} {L : WL} {o : Nat} {a1 : Int32} {s0 : Int32} {P : Int32 → Prop} {t : Tg} (ho : isX3 o) (hr : ∀ v, P v → t = (some (.int v), ly0, I, L, R0)) (kk : P (F_X3_pairsFrom_24 I o a1 s0)) : V (zM x_X3_pairsFrom 1 0 0 t) 24 [(0, .ref o), (1, .int a1)] [.int s0] ly0 I L R0 0 0 :=
  V_iret (tat ok_X3_pairsFrom_0 (i := 14) (q := 25) rfl rfl) _ rfl (nar_int _) (hr s0 (jx (P := P) kk rfl)) ⟨(Nat.le_of_ble_eq_true rfl), (Nat.le_of_ble_eq_true rfl)⟩
def F_X3_pairsFrom_23 (I : WI) (o : Nat) (a1 : Int32) : Int32 :=
  (F_X3_pairsFrom_24 I o a1 0)
theorem V_X3_pairsFrom_23  {I : WI} {L : WL} {o : Nat} {a1 : Int32}  {P : Int32 → Prop} {t : Tg} (ho : isX3 o) (hr : ∀ v, P v → t = (some (.int v), ly0, I, L, R0)) (kk : P (F_X3_pairsFrom_23 I o a1)) : V (zM x_X3_pairsFrom 1 0 0 t) 23 [(0, .ref o), (1, .int a1)] [] ly0 I L R0 0 0 :=
  V_iconst (tat ok_X3_pairsFrom_0 (i := 13) (q := 24) rfl rfl) ic_0 <|
    V_X3_pairsFrom_24 ho hr (jx (P := P) kk rfl)
def F_X3_pairsFrom (I : WI) (o : Nat) (a1 : Int32) : Int32 :=
  (if a1 < 0 then (F_X3_pairsFrom_23 I o a1) else (if (I o 0) ≤ a1 then (F_X3_pairsFrom_23 I o a1) else (F_X3_pairsFrom_24 I o a1 (((I o 0) - a1) / 2))))
theorem V_X3_pairsFrom  {I : WI} {L : WL} {o : Nat} {a1 : Int32}  {P : Int32 → Prop} {t : Tg} (ho : isX3 o) (hr : ∀ v, P v → t = (some (.int v), ly0, I, L, R0)) (kk : P (F_X3_pairsFrom I o a1)) : V (zM x_X3_pairsFrom 1 0 0 t) 0 [(0, .ref o), (1, .int a1)] [] ly0 I L R0 0 0 :=
  V_iload_n (tat ok_X3_pairsFrom_0 (i := 0) (q := 1) rfl rfl) 1 rfl rfl <|
    V_if_lt (tat ok_X3_pairsFrom_0 (i := 1) (q := 4) rfl rfl) rfl (fun c1 => V_X3_pairsFrom_23 ho hr (jx (P := P) kk (if_pos c1))) (fun c1 => V_iload_n (tat ok_X3_pairsFrom_0 (i := 2) (q := 5) rfl rfl) 1 rfl rfl <|
    V_aload_n (tat ok_X3_pairsFrom_0 (i := 3) (q := 6) rfl rfl) 0 rfl rfl <|
    V_getI (tat ok_X3_pairsFrom_0 (i := 4) (q := 9) rfl rfl) fk_X3_9 ho.1 <|
    V_icmp_ge (tat ok_X3_pairsFrom_0 (i := 5) (q := 12) rfl rfl) rfl (fun c2 => V_X3_pairsFrom_23 ho hr (jx (P := P) kk (Eq.trans (if_neg c1) (if_pos c2)))) (fun c2 => V_aload_n (tat ok_X3_pairsFrom_0 (i := 6) (q := 13) rfl rfl) 0 rfl rfl <|
    V_getI (tat ok_X3_pairsFrom_0 (i := 7) (q := 16) rfl rfl) fk_X3_9 ho.1 <|
    V_iload_n (tat ok_X3_pairsFrom_0 (i := 8) (q := 17) rfl rfl) 1 rfl rfl <|
    V_isub (tat ok_X3_pairsFrom_0 (i := 9) (q := 18) rfl rfl) <|
    V_iconst (tat ok_X3_pairsFrom_0 (i := 10) (q := 19) rfl rfl) ic_2 <|
    V_idiv (tat ok_X3_pairsFrom_0 (i := 11) (q := 20) rfl rfl) (by decide) <|
    V_goto (tat ok_X3_pairsFrom_0 (i := 12) (q := 23) rfl rfl) rfl <|
    V_X3_pairsFrom_24 ho hr (jx (P := P) kk (Eq.trans (if_neg c1) (if_neg c2)))))
theorem ct_X3_pairsFrom  (I : WI) (L : WL) (o : Nat) (a1 : Int32) (ho : isX3 o) : Ct x_X3_pairsFrom 1 [.ref o, .int a1] ly0 I L R0 0 0 (some (.int (F_X3_pairsFrom I o a1)), ly0, I, L, R0) :=
  Ct_of_V mo_X3_pairsFrom.1 (Nat.le_of_ble_eq_true rfl) (V_X3_pairsFrom (P := fun x => x = (F_X3_pairsFrom I o a1)) ho (fun _ e => by rw [e]) rfl)
def F_X4_cellsOf_26 (I : WI) (a1 : Int32) (s0 : Int32) : Int32 :=
  s0
theorem V_X4_cellsOf_26  {I : WI} {L : WL} {a1 : Int32} {s0 : Int32} {P : Int32 → Prop} {t : Tg} (hr : ∀ v, P v → t = (some (.int v), ly0, I, L, R0)) (kk : P (F_X4_cellsOf_26 I a1 s0)) : V (zM x_X4_cellsOf 2 0 0 t) 26 [(0, .ref 17), (1, .int a1)] [.int s0] ly0 I L R0 0 0 :=
  V_iret (tat ok_X4_cellsOf_0 (i := 13) (q := 27) rfl rfl) _ rfl (nar_int _) (hr s0 (jx (P := P) kk rfl)) ⟨(Nat.le_of_ble_eq_true rfl), (Nat.le_of_ble_eq_true rfl)⟩
def F_X4_cellsOf_17 (I : WI) (a1 : Int32) : Int32 :=
  (F_X4_cellsOf_26 I a1 (-4))
theorem V_X4_cellsOf_17  {I : WI} {L : WL} {a1 : Int32}  {P : Int32 → Prop} {t : Tg} (hr : ∀ v, P v → t = (some (.int v), ly0, I, L, R0)) (kk : P (F_X4_cellsOf_17 I a1)) : V (zM x_X4_cellsOf 2 0 0 t) 17 [(0, .ref 17), (1, .int a1)] [] ly0 I L R0 0 0 :=
  V_bipush (tat ok_X4_cellsOf_0 (i := 9) (q := 19) rfl rfl) bp_m4 <|
    V_goto (tat ok_X4_cellsOf_0 (i := 10) (q := 22) rfl rfl) rfl <|
    V_X4_cellsOf_26  hr (jx (P := P) kk rfl)
def F_X4_cellsOf (I : WI) (a1 : Int32) : Int32 :=
  (if ¬ (a1 < 0 ∨ 4 ≤ Int32.toNatClampNeg a1) then (if (F_X3_isNothing I (sid a1)) = 0 then (F_X4_cellsOf_26 I a1 (I (sid a1) 0)) else (F_X4_cellsOf_17 I a1)) else (F_X4_cellsOf_17 I a1))
theorem V_X4_cellsOf  {I : WI} {L : WL} {a1 : Int32}  {P : Int32 → Prop} {t : Tg} (hr : ∀ v, P v → t = (some (.int v), ly0, I, L, R0)) (kk : P (F_X4_cellsOf I a1)) : V (zM x_X4_cellsOf 2 0 0 t) 0 [(0, .ref 17), (1, .int a1)] [] ly0 I L R0 0 0 :=
  V_aload_n (tat ok_X4_cellsOf_0 (i := 0) (q := 1) rfl rfl) 0 rfl rfl <|
    V_iload_n (tat ok_X4_cellsOf_0 (i := 1) (q := 2) rfl rfl) 1 rfl rfl <|
    (if c1 : ¬ (a1 < 0 ∨ 4 ≤ Int32.toNatClampNeg a1) then V_cv1 (ct_at1 I L a1 c1) mo_X4_at (tat ok_X4_cellsOf_0 (i := 2) (q := 5) rfl rfl) ml_X4_18 rfl ⟨by decide, _, rfl, rfl⟩ ⟨(Nat.le_of_ble_eq_true rfl), (Nat.le_of_ble_eq_true rfl)⟩ ⟨(Nat.le_of_ble_eq_true rfl), (Nat.le_of_ble_eq_true rfl)⟩ (Nat.le_of_ble_eq_true rfl) <|
    V_astore_n (lv' := [(2, .ref (sid a1)), (0, .ref 17), (1, .int a1)]) (tat ok_X4_cellsOf_0 (i := 3) (q := 6) rfl rfl) rfl (isX3_lt (isX3_sid c1)) (Nat.le_of_ble_eq_true rfl) rfl <|
    V_aload_n (tat ok_X4_cellsOf_0 (i := 4) (q := 7) rfl rfl) 0 rfl rfl <|
    V_ifnull (tat ok_X4_cellsOf_0 (i := 5) (q := 10) rfl rfl) (isX3_lt (isX3_sid c1)) <|
    V_aload_n (tat ok_X4_cellsOf_0 (i := 6) (q := 11) rfl rfl) 0 rfl rfl <|
    V_cv0 (ct_X3_isNothing I L (sid a1) (isX3_sid c1)) mo_X3_isNothing (tat ok_X4_cellsOf_0 (i := 7) (q := 14) rfl rfl) ml_X4_22 (isX3_sid c1).1 ⟨by decide, _, rfl, rfl⟩ ⟨(Nat.le_of_ble_eq_true rfl), (Nat.le_of_ble_eq_true rfl)⟩ ⟨(Nat.le_of_ble_eq_true rfl), (Nat.le_of_ble_eq_true rfl)⟩ (Nat.le_of_ble_eq_true rfl) <|
    V_if_eq (tat ok_X4_cellsOf_0 (i := 8) (q := 17) rfl rfl) rfl (fun c2 => V_aload_n (tat ok_X4_cellsOf_0 (i := 11) (q := 23) rfl rfl) 0 rfl rfl <|
    V_getI (tat ok_X4_cellsOf_0 (i := 12) (q := 26) rfl rfl) fk_X4_26 (isX3_sid c1).1 <|
    V_pick [1, 2] rfl (V_X4_cellsOf_26  hr (jx (P := P) kk (Eq.trans (if_pos c1) (if_pos c2))))) (fun c2 => V_pick [1, 2] rfl (V_X4_cellsOf_17  hr (jx (P := P) kk (Eq.trans (if_pos c1) (if_neg c2))))) else V_cv1 (ct_atN I L a1 c1) mo_X4_at (tat ok_X4_cellsOf_0 (i := 2) (q := 5) rfl rfl) ml_X4_18 rfl ⟨by decide, _, rfl, rfl⟩ ⟨(Nat.le_of_ble_eq_true rfl), (Nat.le_of_ble_eq_true rfl)⟩ ⟨(Nat.le_of_ble_eq_true rfl), (Nat.le_of_ble_eq_true rfl)⟩ (Nat.le_of_ble_eq_true rfl) <|
    V_astoreN_n (lv' := [(2, .null), (0, .ref 17), (1, .int a1)]) (tat ok_X4_cellsOf_0 (i := 3) (q := 6) rfl rfl) rfl (Nat.le_of_ble_eq_true rfl) rfl <|
    V_aloadN_n (tat ok_X4_cellsOf_0 (i := 4) (q := 7) rfl rfl) 0 rfl rfl <|
    V_ifnullN (tat ok_X4_cellsOf_0 (i := 5) (q := 10) rfl rfl) rfl <|
    V_pick [1, 2] rfl (V_X4_cellsOf_17  hr (jx (P := P) kk (if_neg c1))))
theorem ct_X4_cellsOf  (I : WI) (L : WL) (a1 : Int32)  : Ct x_X4_cellsOf 2 [.ref 17, .int a1] ly0 I L R0 0 0 (some (.int (F_X4_cellsOf I a1)), ly0, I, L, R0) :=
  Ct_of_V mo_X4_cellsOf.1 (Nat.le_of_ble_eq_true rfl) (V_X4_cellsOf (P := fun x => x = (F_X4_cellsOf I a1))  (fun _ e => by rw [e]) rfl)
def F_X5_add_17 (I : WI) (a1 : Int64) : (Int32 × WI) :=
  (0, I)
theorem V_X5_add_17  {I : WI} {L : WL} {a1 : Int64}  {P : (Int32 × WI) → Prop} {t : Tg} (hr : ∀ v, P v → t = (some (.int (p1 v)), ly0, (p2 v), L, R0)) (kk : P (F_X5_add_17 I a1)) : V (zM x_X5_add 1 0 0 t) 17 [(0, .ref 9), (1, .long a1)] [] ly0 I L R0 0 0 :=
  V_iconst (tat ok_X5_add_0 (i := 7) (q := 18) rfl rfl) ic_0 <|
    V_iret (tat ok_X5_add_0 (i := 8) (q := 19) rfl rfl) _ rfl rfl (hr (0, I) (jx (P := P) kk rfl)) ⟨(Nat.le_of_ble_eq_true rfl), (Nat.le_of_ble_eq_true rfl)⟩
def F_X5_add_68_1 (I : WI) (a1 : Int64) (a3 : Int32) : WI :=
  I
theorem V_X5_add_68_1  {I : WI} {L : WL} {a1 : Int64} {a3 : Int32}  {P : WI → Prop} {t : Tg} (hk : ∀ x : WI, P x → V (zM x_X5_add 1 0 0 t) 21 [(0, .ref 9), (1, .long a1), (3, .int (a3 + 1))] [] ly0 x L R0 0 0) (kk : P (F_X5_add_68_1 I a1 a3)) : V (zM x_X5_add 1 0 0 t) 68 [(0, .ref 9), (1, .long a1), (3, .int a3)] [] ly0 I L R0 0 0 :=
  V_iinc (v := (a3 + 1)) (lv' := [(3, .int (a3 + 1)), (0, .ref 9), (1, .long a1)]) (tat ok_X5_add_0 (i := 39) (q := 71) rfl rfl) 2 rfl (ia ic_1) (Nat.le_of_ble_eq_true rfl) rfl <|
    V_goto (tat ok_X5_add_1 (i := 0) (q := 74) rfl rfl) rfl <|
    V_pick [1, 2, 0] rfl (hk I (jx (P := P) kk rfl))
def F_X5_add_27_1 (I : WI) (a1 : Int64) (a3 : Int32) : WI :=
  (if ((I 9 0) + a3) < 0 then (F_X5_add_68_1 I a1 a3) else (if 320 ≤ ((I 9 0) + a3) then (F_X5_add_68_1 I a1 a3) else (F_X5_add_68_1 (u2 I 10 (Int32.toNatClampNeg ((I 9 0) + a3)) (Int8.toInt32 (Int32.toInt8 (Int8.toInt32 (Int32.toInt8 (Int64.toInt32 (lsr a1 (56 - (8 * a3))))))))) a1 a3)))
theorem V_X5_add_27_1  {I : WI} {L : WL} {a1 : Int64} {a3 : Int32}  {P : WI → Prop} {t : Tg} (hk : ∀ x : WI, P x → V (zM x_X5_add 1 0 0 t) 21 [(0, .ref 9), (1, .long a1), (3, .int (a3 + 1))] [] ly0 x L R0 0 0) (kk : P (F_X5_add_27_1 I a1 a3)) : V (zM x_X5_add 1 0 0 t) 27 [(0, .ref 9), (1, .long a1), (3, .int a3)] [] ly0 I L R0 0 0 :=
  V_aload_n (tat ok_X5_add_0 (i := 14) (q := 28) rfl rfl) 0 rfl rfl <|
    V_getI (tat ok_X5_add_0 (i := 15) (q := 31) rfl rfl) fk_X5_13 rfl <|
    V_iload_n (tat ok_X5_add_0 (i := 16) (q := 32) rfl rfl) 2 rfl rfl <|
    V_iadd (tat ok_X5_add_0 (i := 17) (q := 33) rfl rfl) <|
    V_istore (lv' := [(4, .int ((I 9 0) + a3)), (0, .ref 9), (1, .long a1), (3, .int a3)]) (tat ok_X5_add_0 (i := 18) (q := 35) rfl rfl) (Nat.le_of_ble_eq_true rfl) rfl <|
    V_iload (tat ok_X5_add_0 (i := 19) (q := 37) rfl rfl) 0 rfl <|
    V_if_lt (tat ok_X5_add_0 (i := 20) (q := 40) rfl rfl) rfl (fun c3 => V_pick [1, 2, 3] rfl (V_X5_add_68_1  hk (jx (P := P) kk (if_pos c3)))) (fun c3 => V_iload (tat ok_X5_add_0 (i := 21) (q := 42) rfl rfl) 0 rfl <|
    V_aload_n (tat ok_X5_add_0 (i := 22) (q := 43) rfl rfl) 1 rfl rfl <|
    V_getR (tat ok_X5_add_0 (i := 23) (q := 46) rfl rfl) fk_X5_9 rfl rfl <|
    V_alen (tat ok_X5_add_0 (i := 24) (q := 47) rfl rfl) rfl ⟨by decide, by decide⟩ nl_320 <|
    V_icmp_ge (tat ok_X5_add_0 (i := 25) (q := 50) rfl rfl) rfl (fun c4 => V_pick [1, 2, 3] rfl (V_X5_add_68_1  hk (jx (P := P) kk (Eq.trans (if_neg c3) (if_pos c4))))) (fun c4 => V_aload_n (tat ok_X5_add_0 (i := 26) (q := 51) rfl rfl) 1 rfl rfl <|
    V_getR (tat ok_X5_add_0 (i := 27) (q := 54) rfl rfl) fk_X5_9 rfl rfl <|
    V_iload (tat ok_X5_add_0 (i := 28) (q := 56) rfl rfl) 0 rfl <|
    V_lload_n (tat ok_X5_add_0 (i := 29) (q := 57) rfl rfl) 2 rfl rfl <|
    V_bipush (tat ok_X5_add_0 (i := 30) (q := 59) rfl rfl) bp_56 <|
    V_bipush (tat ok_X5_add_0 (i := 31) (q := 61) rfl rfl) bp_8 <|
    V_iload_n (tat ok_X5_add_0 (i := 32) (q := 62) rfl rfl) 3 rfl rfl <|
    V_imul (tat ok_X5_add_0 (i := 33) (q := 63) rfl rfl) <|
    V_isub (tat ok_X5_add_0 (i := 34) (q := 64) rfl rfl) <|
    V_lshr (tat ok_X5_add_0 (i := 35) (q := 65) rfl rfl) <|
    V_l2i (tat ok_X5_add_0 (i := 36) (q := 66) rfl rfl) <|
    V_i2b (tat ok_X5_add_0 (i := 37) (q := 67) rfl rfl) <|
    V_bast (tat ok_X5_add_0 (i := 38) (q := 68) rfl rfl) rfl (vpin ti_320 c3 c4) <|
    V_pick [1, 2, 3] rfl (V_X5_add_68_1  hk (jx (P := P) kk (Eq.trans (if_neg c3) (if_neg c4))))))
def F_X5_add_74 (I : WI) (a1 : Int64) : (Int32 × WI) :=
  (1, (u2 I 9 0 ((I 9 0) + 8)))
theorem V_X5_add_74  {I : WI} {L : WL} {a1 : Int64}  {P : (Int32 × WI) → Prop} {t : Tg} (hr : ∀ v, P v → t = (some (.int (p1 v)), ly0, (p2 v), L, R0)) (kk : P (F_X5_add_74 I a1)) : V (zM x_X5_add 1 0 0 t) 74 [(0, .ref 9), (1, .long a1)] [] ly0 I L R0 0 0 :=
  V_aload_n (tat ok_X5_add_1 (i := 1) (q := 75) rfl rfl) 0 rfl rfl <|
    V_dup (tat ok_X5_add_1 (i := 2) (q := 76) rfl rfl) rfl <|
    V_getI (tat ok_X5_add_1 (i := 3) (q := 79) rfl rfl) fk_X5_13 rfl <|
    V_bipush (tat ok_X5_add_1 (i := 4) (q := 81) rfl rfl) bp_8 <|
    V_iadd (tat ok_X5_add_1 (i := 5) (q := 82) rfl rfl) <|
    V_putI (tat ok_X5_add_1 (i := 6) (q := 85) rfl rfl) fk_X5_13 rfl rfl <|
    V_iconst (tat ok_X5_add_1 (i := 7) (q := 86) rfl rfl) ic_1 <|
    V_iret (tat ok_X5_add_1 (i := 8) (q := 87) rfl rfl) _ rfl rfl (hr (1, (u2 I 9 0 ((I 9 0) + 8))) (jx (P := P) kk rfl)) ⟨(Nat.le_of_ble_eq_true rfl), (Nat.le_of_ble_eq_true rfl)⟩
def F_X5_add_21 (I : WI) (a1 : Int64) (a3 : Int32) : (Int32 × WI) :=
  (fun q : Int32 × WI => (F_X5_add_74 (p2 q) a1)) (fr0 (fun i x => (F_X5_add_27_1 x a1 i)) 8 (fu a3 8) a3 I)
theorem V_X5_add_21  {I : WI} {L : WL} {a1 : Int64} {a3 : Int32} {P : (Int32 × WI) → Prop} {t : Tg} (hb3 : bz a3 = a3) (hr : ∀ v, P v → t = (some (.int (p1 v)), ly0, (p2 v), L, R0)) (kk : P (F_X5_add_21 I a1 a3)) : V (zM x_X5_add 1 0 0 t) 21 [(0, .ref 9), (1, .long a1), (3, .int a3)] [] ly0 I L R0 0 0 :=
  V_fr0 (fun i x => (F_X5_add_27_1 x a1 i)) 8 (fun i x => V (zM x_X5_add 1 0 0 t) 21 [(0, .ref 9), (1, .long a1), (3, .int i)] [] ly0 x L R0 0 0) (fun i x => P ((F_X5_add_74 x a1))) (c := a3) (s := I) (fun i x kx kb => V_iload_n (tat ok_X5_add_0 (i := 11) (q := 22) rfl rfl) 2 rfl rfl <|
    V_bipush (tat ok_X5_add_0 (i := 12) (q := 24) rfl rfl) bp_8 <|
    V_icmp_ge (tat ok_X5_add_0 (i := 13) (q := 27) rfl rfl) rfl (fun c0 => V_pick [0, 1] rfl (V_X5_add_74  hr (kx c0))) (fun c0 => V_X5_add_27_1 (P := (fun x => (fun i x => V (zM x_X5_add 1 0 0 t) 21 [(0, .ref 9), (1, .long a1), (3, .int i)] [] ly0 x L R0 0 0) (i + 1) x))  (fun _ e => e) (kb c0))) kk
def F_X5_add (I : WI) (a1 : Int64) : (Int32 × WI) :=
  (if (I 9 0) < 0 then (F_X5_add_17 I a1) else (if (I 9 0) ≤ 312 then (F_X5_add_21 I a1 0) else (F_X5_add_17 I a1)))
theorem V_X5_add  {I : WI} {L : WL} {a1 : Int64}  {P : (Int32 × WI) → Prop} {t : Tg} (hr : ∀ v, P v → t = (some (.int (p1 v)), ly0, (p2 v), L, R0)) (kk : P (F_X5_add I a1)) : V (zM x_X5_add 1 0 0 t) 0 [(0, .ref 9), (1, .long a1)] [] ly0 I L R0 0 0 :=
  V_aload_n (tat ok_X5_add_0 (i := 0) (q := 1) rfl rfl) 0 rfl rfl <|
    V_getI (tat ok_X5_add_0 (i := 1) (q := 4) rfl rfl) fk_X5_13 rfl <|
    V_if_lt (tat ok_X5_add_0 (i := 2) (q := 7) rfl rfl) rfl (fun c1 => V_X5_add_17  hr (jx (P := P) kk (if_pos c1))) (fun c1 => V_aload_n (tat ok_X5_add_0 (i := 3) (q := 8) rfl rfl) 0 rfl rfl <|
    V_getI (tat ok_X5_add_0 (i := 4) (q := 11) rfl rfl) fk_X5_13 rfl <|
    V_sipush (tat ok_X5_add_0 (i := 5) (q := 14) rfl rfl) sp_312 <|
    V_icmp_le (tat ok_X5_add_0 (i := 6) (q := 17) rfl rfl) rfl (fun c2 => V_iconst (tat ok_X5_add_0 (i := 9) (q := 20) rfl rfl) ic_0 <|
    V_istore_n (lv' := [(3, .int 0), (0, .ref 9), (1, .long a1)]) (tat ok_X5_add_0 (i := 10) (q := 21) rfl rfl) rfl (Nat.le_of_ble_eq_true rfl) rfl <|
    V_pick [1, 2, 0] rfl (V_X5_add_21 rfl hr (jx (P := P) kk (Eq.trans (if_neg c1) (if_pos c2))))) (fun c2 => V_X5_add_17  hr (jx (P := P) kk (Eq.trans (if_neg c1) (if_neg c2)))))
theorem ct_X5_add  (I : WI) (L : WL) (a1 : Int64)  : Ct x_X5_add 1 [.ref 9, .long a1] ly0 I L R0 0 0 (some (.int (p1 (F_X5_add I a1))), ly0, (p2 (F_X5_add I a1)), L, R0) :=
  Ct_of_V mo_X5_add.1 (Nat.le_of_ble_eq_true rfl) (V_X5_add (P := fun x => x = (F_X5_add I a1))  (fun _ e => by rw [e]) rfl)
def F_X5_byteAt_31 (I : WI) (a1 : Int32) (s0 : Int32) : Int32 :=
  s0
theorem V_X5_byteAt_31  {I : WI} {L : WL} {a1 : Int32} {s0 : Int32} {P : Int32 → Prop} {t : Tg} (hr : ∀ v, P v → t = (some (.int v), ly0, I, L, R0)) (kk : P (F_X5_byteAt_31 I a1 s0)) : V (zM x_X5_byteAt 1 0 0 t) 31 [(0, .ref 9), (1, .int a1)] [.int s0] ly0 I L R0 0 0 :=
  V_iret (tat ok_X5_byteAt_0 (i := 17) (q := 32) rfl rfl) _ rfl (nar_int _) (hr s0 (jx (P := P) kk rfl)) ⟨(Nat.le_of_ble_eq_true rfl), (Nat.le_of_ble_eq_true rfl)⟩
def F_X5_byteAt_30 (I : WI) (a1 : Int32) : Int32 :=
  (F_X5_byteAt_31 I a1 0)
theorem V_X5_byteAt_30  {I : WI} {L : WL} {a1 : Int32}  {P : Int32 → Prop} {t : Tg} (hr : ∀ v, P v → t = (some (.int v), ly0, I, L, R0)) (kk : P (F_X5_byteAt_30 I a1)) : V (zM x_X5_byteAt 1 0 0 t) 30 [(0, .ref 9), (1, .int a1)] [] ly0 I L R0 0 0 :=
  V_iconst (tat ok_X5_byteAt_0 (i := 16) (q := 31) rfl rfl) ic_0 <|
    V_X5_byteAt_31  hr (jx (P := P) kk rfl)
def F_X5_byteAt (I : WI) (a1 : Int32) : Int32 :=
  (if a1 < 0 then (F_X5_byteAt_30 I a1) else (if (I 9 0) ≤ a1 then (F_X5_byteAt_30 I a1) else (if 320 ≤ a1 then (F_X5_byteAt_30 I a1) else (F_X5_byteAt_31 I a1 (I 10 (Int32.toNatClampNeg a1))))))
theorem V_X5_byteAt  {I : WI} {L : WL} {a1 : Int32}  {P : Int32 → Prop} {t : Tg} (hr : ∀ v, P v → t = (some (.int v), ly0, I, L, R0)) (kk : P (F_X5_byteAt I a1)) : V (zM x_X5_byteAt 1 0 0 t) 0 [(0, .ref 9), (1, .int a1)] [] ly0 I L R0 0 0 :=
  V_iload_n (tat ok_X5_byteAt_0 (i := 0) (q := 1) rfl rfl) 1 rfl rfl <|
    V_if_lt (tat ok_X5_byteAt_0 (i := 1) (q := 4) rfl rfl) rfl (fun c1 => V_X5_byteAt_30  hr (jx (P := P) kk (if_pos c1))) (fun c1 => V_iload_n (tat ok_X5_byteAt_0 (i := 2) (q := 5) rfl rfl) 1 rfl rfl <|
    V_aload_n (tat ok_X5_byteAt_0 (i := 3) (q := 6) rfl rfl) 0 rfl rfl <|
    V_getI (tat ok_X5_byteAt_0 (i := 4) (q := 9) rfl rfl) fk_X5_13 rfl <|
    V_icmp_ge (tat ok_X5_byteAt_0 (i := 5) (q := 12) rfl rfl) rfl (fun c2 => V_X5_byteAt_30  hr (jx (P := P) kk (Eq.trans (if_neg c1) (if_pos c2)))) (fun c2 => V_iload_n (tat ok_X5_byteAt_0 (i := 6) (q := 13) rfl rfl) 1 rfl rfl <|
    V_aload_n (tat ok_X5_byteAt_0 (i := 7) (q := 14) rfl rfl) 0 rfl rfl <|
    V_getR (tat ok_X5_byteAt_0 (i := 8) (q := 17) rfl rfl) fk_X5_9 rfl rfl <|
    V_alen (tat ok_X5_byteAt_0 (i := 9) (q := 18) rfl rfl) rfl ⟨by decide, by decide⟩ nl_320 <|
    V_icmp_ge (tat ok_X5_byteAt_0 (i := 10) (q := 21) rfl rfl) rfl (fun c3 => V_X5_byteAt_30  hr (jx (P := P) kk (Eq.trans (if_neg c1) (Eq.trans (if_neg c2) (if_pos c3))))) (fun c3 => V_aload_n (tat ok_X5_byteAt_0 (i := 11) (q := 22) rfl rfl) 0 rfl rfl <|
    V_getR (tat ok_X5_byteAt_0 (i := 12) (q := 25) rfl rfl) fk_X5_9 rfl rfl <|
    V_iload_n (tat ok_X5_byteAt_0 (i := 13) (q := 26) rfl rfl) 1 rfl rfl <|
    V_bald (tat ok_X5_byteAt_0 (i := 14) (q := 27) rfl rfl) rfl (vpin ti_320 c1 c3) <|
    V_goto (tat ok_X5_byteAt_0 (i := 15) (q := 30) rfl rfl) rfl <|
    V_X5_byteAt_31  hr (jx (P := P) kk (Eq.trans (if_neg c1) (Eq.trans (if_neg c2) (if_neg c3)))))))
theorem ct_X5_byteAt  (I : WI) (L : WL) (a1 : Int32)  : Ct x_X5_byteAt 1 [.ref 9, .int a1] ly0 I L R0 0 0 (some (.int (F_X5_byteAt I a1)), ly0, I, L, R0) :=
  Ct_of_V mo_X5_byteAt.1 (Nat.le_of_ble_eq_true rfl) (V_X5_byteAt (P := fun x => x = (F_X5_byteAt I a1))  (fun _ e => by rw [e]) rfl)
