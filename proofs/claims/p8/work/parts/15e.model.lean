def F_X9_findNearest_145_1 (I : WI) (a1 : Int64) (a3 : Int32) : Option (WI ⊕ (Int32 × WI)) :=
  some (.inr ((a3 + 1), I))
theorem V_X9_findNearest_145_1  {I : WI} {L : WL} {a1 : Int64} {a3 : Int32} {P : (WI ⊕ (Int32 × WI)) → Prop} {t : Tg} (he : ∀ x : WI, P (.inl x) → V (zM x_X9_findNearest 3 0 0 t) 151 [(0, .ref 33), (1, .long a1)] [] ly0 x L R0 0 0) (hk : ∀ x : (Int32 × WI), P (.inr x) → V (zM x_X9_findNearest 3 0 0 t) 8 [(0, .ref 33), (1, .long a1), (3, .int (p1 x))] [] ly0 (p2 x) L R0 0 0) (kk : oP P (F_X9_findNearest_145_1 I a1 a3)) : V (zM x_X9_findNearest 3 0 0 t) 145 [(0, .ref 33), (1, .long a1), (3, .int a3)] [] ly0 I L R0 0 0 :=
  V_iinc (v := (a3 + 1)) (lv' := [(3, .int (a3 + 1)), (0, .ref 33), (1, .long a1)]) (tat ok_X9_findNearest_2 (i := 0) (q := 148) rfl rfl) 2 rfl (ia ic_1) (Nat.le_of_ble_eq_true rfl) rfl <|
    V_goto (tat ok_X9_findNearest_2 (i := 1) (q := 151) rfl rfl) rfl <|
    V_pick [1, 2, 0] rfl (hk ((a3 + 1), I) (jx (P := oP P) kk rfl))
def F_X9_findNearest_119_1 (I : WI) (a1 : Int64) (a3 : Int32) (a6 : Int32) (a7 : Int32) : Option (WI ⊕ (Int32 × WI)) :=
  (if (I 33 33) ≤ a6 then (F_X9_findNearest_145_1 I a1 a3) else (F_X9_findNearest_145_1 (u2 (u2 (u2 I 33 33 a6) 33 34 a3) 33 35 a7) a1 a3))
theorem V_X9_findNearest_119_1  {I : WI} {L : WL} {a1 : Int64} {a3 : Int32} {a6 : Int32} {a7 : Int32} {P : (WI ⊕ (Int32 × WI)) → Prop} {t : Tg} (he : ∀ x : WI, P (.inl x) → V (zM x_X9_findNearest 3 0 0 t) 151 [(0, .ref 33), (1, .long a1)] [] ly0 x L R0 0 0) (hk : ∀ x : (Int32 × WI), P (.inr x) → V (zM x_X9_findNearest 3 0 0 t) 8 [(0, .ref 33), (1, .long a1), (3, .int (p1 x))] [] ly0 (p2 x) L R0 0 0) (kk : oP P (F_X9_findNearest_119_1 I a1 a3 a6 a7)) : V (zM x_X9_findNearest 3 0 0 t) 119 [(0, .ref 33), (1, .long a1), (3, .int a3), (6, .int a6), (7, .int a7)] [] ly0 I L R0 0 0 :=
  V_iload (tat ok_X9_findNearest_1 (i := 27) (q := 121) rfl rfl) 3 rfl <|
    V_aload_n (tat ok_X9_findNearest_1 (i := 28) (q := 122) rfl rfl) 0 rfl rfl <|
    V_getI (tat ok_X9_findNearest_1 (i := 29) (q := 125) rfl rfl) fk_X9_260 rfl <|
    V_icmp_ge (tat ok_X9_findNearest_1 (i := 30) (q := 128) rfl rfl) rfl (fun c4 => V_pick [0, 1, 2] rfl (V_X9_findNearest_145_1  he hk (jx (P := oP P) kk (if_pos c4)))) (fun c4 => V_aload_n (tat ok_X9_findNearest_1 (i := 31) (q := 129) rfl rfl) 0 rfl rfl <|
    V_iload (tat ok_X9_findNearest_1 (i := 32) (q := 131) rfl rfl) 3 rfl <|
    V_putI (tat ok_X9_findNearest_1 (i := 33) (q := 134) rfl rfl) fk_X9_260 rfl rfl <|
    V_aload_n (tat ok_X9_findNearest_1 (i := 34) (q := 135) rfl rfl) 0 rfl rfl <|
    V_iload_n (tat ok_X9_findNearest_1 (i := 35) (q := 136) rfl rfl) 2 rfl rfl <|
    V_putI (tat ok_X9_findNearest_1 (i := 36) (q := 139) rfl rfl) fk_X9_263 rfl rfl <|
    V_aload_n (tat ok_X9_findNearest_1 (i := 37) (q := 140) rfl rfl) 0 rfl rfl <|
    V_iload (tat ok_X9_findNearest_1 (i := 38) (q := 142) rfl rfl) 4 rfl <|
    V_putI (tat ok_X9_findNearest_1 (i := 39) (q := 145) rfl rfl) fk_X9_266 rfl rfl <|
    V_pick [0, 1, 2] rfl (V_X9_findNearest_145_1  he hk (jx (P := oP P) kk (if_neg c4))))
def F_X9_findNearest_37_1 (I : WI) (a1 : Int64) (a3 : Int32) (a4 : Int64) (a6 : Int32) (a7 : Int32) (a8 : Int32) : Option (WI ⊕ (Int32 × WI)) :=
  (frp0 (fun i x => (F_X9_findNearest_46_2 I a1 a3 a4 i (p1 x) (p2 x))) (I 33 1) (fu a8 (I 33 1)) a8 (a6, a7)).bind (fun q => (F_X9_findNearest_119_1 I a1 a3 (p1 (p2 q)) (p2 (p2 q))))
theorem V_X9_findNearest_37_1  {I : WI} {L : WL} {a1 : Int64} {a3 : Int32} {a4 : Int64} {a6 : Int32} {a7 : Int32} {a8 : Int32} {P : (WI ⊕ (Int32 × WI)) → Prop} {t : Tg} (hb6 : bz a6 = a6) (hb7 : bz a7 = a7) (hb8 : bz a8 = a8) (he : ∀ x : WI, P (.inl x) → V (zM x_X9_findNearest 3 0 0 t) 151 [(0, .ref 33), (1, .long a1)] [] ly0 x L R0 0 0) (hk : ∀ x : (Int32 × WI), P (.inr x) → V (zM x_X9_findNearest 3 0 0 t) 8 [(0, .ref 33), (1, .long a1), (3, .int (p1 x))] [] ly0 (p2 x) L R0 0 0) (kk : oP P (F_X9_findNearest_37_1 I a1 a3 a4 a6 a7 a8)) : V (zM x_X9_findNearest 3 0 0 t) 37 [(0, .ref 33), (1, .long a1), (3, .int a3), (4, .long a4), (6, .int a6), (7, .int a7), (8, .int a8)] [] ly0 I L R0 0 0 :=
  V_frp0 (fun i x => (F_X9_findNearest_46_2 I a1 a3 a4 i (p1 x) (p2 x))) (I 33 1) (fun i x => V (zM x_X9_findNearest 3 0 0 t) 37 [(0, .ref 33), (1, .long a1), (3, .int a3), (4, .long a4), (6, .int (p1 x)), (7, .int (p2 x)), (8, .int i)] [] ly0 I L R0 0 0) (fun i x => oP P ((F_X9_findNearest_119_1 I a1 a3 (p1 x) (p2 x)))) (c := a8) (s := (a6, a7)) (fun i x kx kb => V_iload (tat ok_X9_findNearest_0 (i := 24) (q := 39) rfl rfl) 6 rfl <|
    V_aload_n (tat ok_X9_findNearest_0 (i := 25) (q := 40) rfl rfl) 0 rfl rfl <|
    V_getI (tat ok_X9_findNearest_0 (i := 26) (q := 43) rfl rfl) fk_X9_77 rfl <|
    V_icmp_ge (tat ok_X9_findNearest_0 (i := 27) (q := 46) rfl rfl) rfl (fun c0 => V_pick [0, 1, 2, 4, 5] rfl (V_X9_findNearest_119_1  he hk (kx c0))) (fun c0 => V_X9_findNearest_46_2 (P := (fun x => (fun i x => V (zM x_X9_findNearest 3 0 0 t) 37 [(0, .ref 33), (1, .long a1), (3, .int a3), (4, .long a4), (6, .int (p1 x)), (7, .int (p2 x)), (8, .int i)] [] ly0 I L R0 0 0) (i + 1) x))  (fun _ e => e) (kb c0))) (oP_bind (f := fun q => _) kk)
def F_X9_findNearest_8_1 (I : WI) (a1 : Int64) (a3 : Int32) : Option (WI ⊕ (Int32 × WI)) :=
  (if (1 <<< ((I 33 0) &&& 31)) ≤ a3 then some (.inl I) else (F_X9_findNearest_37_1 I a1 a3 (a1 ^^^ (F_X9_turnSet I a3 0)) 0 0 0))
theorem V_X9_findNearest_8_1  {I : WI} {L : WL} {a1 : Int64} {a3 : Int32} {P : (WI ⊕ (Int32 × WI)) → Prop} {t : Tg} (he : ∀ x : WI, P (.inl x) → V (zM x_X9_findNearest 3 0 0 t) 151 [(0, .ref 33), (1, .long a1)] [] ly0 x L R0 0 0) (hk : ∀ x : (Int32 × WI), P (.inr x) → V (zM x_X9_findNearest 3 0 0 t) 8 [(0, .ref 33), (1, .long a1), (3, .int (p1 x))] [] ly0 (p2 x) L R0 0 0) (kk : oP P (F_X9_findNearest_8_1 I a1 a3)) : V (zM x_X9_findNearest 3 0 0 t) 8 [(0, .ref 33), (1, .long a1), (3, .int a3)] [] ly0 I L R0 0 0 :=
  V_iload_n (tat ok_X9_findNearest_0 (i := 5) (q := 9) rfl rfl) 2 rfl rfl <|
    V_iconst (tat ok_X9_findNearest_0 (i := 6) (q := 10) rfl rfl) ic_1 <|
    V_aload_n (tat ok_X9_findNearest_0 (i := 7) (q := 11) rfl rfl) 0 rfl rfl <|
    V_getI (tat ok_X9_findNearest_0 (i := 8) (q := 14) rfl rfl) fk_X9_74 rfl <|
    V_ishl (tat ok_X9_findNearest_0 (i := 9) (q := 15) rfl rfl) <|
    V_icmp_ge (tat ok_X9_findNearest_0 (i := 10) (q := 18) rfl rfl) rfl (fun c1 => V_pick [0, 1] rfl (he I (jx (P := oP P) kk (if_pos c1)))) (fun c1 => V_lload_n (tat ok_X9_findNearest_0 (i := 11) (q := 19) rfl rfl) 1 rfl rfl <|
    V_aload_n (tat ok_X9_findNearest_0 (i := 12) (q := 20) rfl rfl) 0 rfl rfl <|
    V_iload_n (tat ok_X9_findNearest_0 (i := 13) (q := 21) rfl rfl) 2 rfl rfl <|
    V_iconst (tat ok_X9_findNearest_0 (i := 14) (q := 22) rfl rfl) ic_0 <|
    V_cv2 (ct_X9_turnSet I L a3 0 ) mo_X9_turnSet (tat ok_X9_findNearest_0 (i := 15) (q := 25) rfl rfl) ml_X9_224 rfl ⟨by decide, _, rfl, rfl⟩ ⟨(Nat.le_of_ble_eq_true rfl), (Nat.le_of_ble_eq_true rfl)⟩ ⟨(Nat.le_of_ble_eq_true rfl), (Nat.le_of_ble_eq_true rfl)⟩ (Nat.le_of_ble_eq_true rfl) <|
    V_lxor (tat ok_X9_findNearest_0 (i := 16) (q := 26) rfl rfl) <|
    V_lstore (lv' := [(4, .long (a1 ^^^ (F_X9_turnSet I a3 0))), (0, .ref 33), (1, .long a1), (3, .int a3)]) (tat ok_X9_findNearest_0 (i := 17) (q := 28) rfl rfl) (Nat.le_of_ble_eq_true rfl) rfl <|
    V_iconst (tat ok_X9_findNearest_0 (i := 18) (q := 29) rfl rfl) ic_0 <|
    V_istore (lv' := [(6, .int 0), (4, .long (a1 ^^^ (F_X9_turnSet I a3 0))), (0, .ref 33), (1, .long a1), (3, .int a3)]) (tat ok_X9_findNearest_0 (i := 19) (q := 31) rfl rfl) (Nat.le_of_ble_eq_true rfl) rfl <|
    V_iconst (tat ok_X9_findNearest_0 (i := 20) (q := 32) rfl rfl) ic_0 <|
    V_istore (lv' := [(7, .int 0), (6, .int 0), (4, .long (a1 ^^^ (F_X9_turnSet I a3 0))), (0, .ref 33), (1, .long a1), (3, .int a3)]) (tat ok_X9_findNearest_0 (i := 21) (q := 34) rfl rfl) (Nat.le_of_ble_eq_true rfl) rfl <|
    V_iconst (tat ok_X9_findNearest_0 (i := 22) (q := 35) rfl rfl) ic_0 <|
    V_istore (lv' := [(8, .int 0), (7, .int 0), (6, .int 0), (4, .long (a1 ^^^ (F_X9_turnSet I a3 0))), (0, .ref 33), (1, .long a1), (3, .int a3)]) (tat ok_X9_findNearest_0 (i := 23) (q := 37) rfl rfl) (Nat.le_of_ble_eq_true rfl) rfl <|
    V_pick [4, 5, 6, 3, 2, 1, 0] rfl (V_X9_findNearest_37_1 rfl rfl rfl he hk (jx (P := oP P) kk (if_neg c1))))
def F_X9_findNearest_151 (I : WI) (a1 : Int64) : Option WI :=
  some I
theorem V_X9_findNearest_151  {I : WI} {L : WL} {a1 : Int64}  {P : WI → Prop} {t : Tg} (hr : ∀ v, P v → t = (none, ly0, v, L, R0)) (kk : oP P (F_X9_findNearest_151 I a1)) : V (zM x_X9_findNearest 3 0 0 t) 151 [(0, .ref 33), (1, .long a1)] [] ly0 I L R0 0 0 :=
  V_vret (tat ok_X9_findNearest_2 (i := 2) (q := 152) rfl rfl) rfl (hr I (jx (P := oP P) kk rfl)) ⟨(Nat.le_of_ble_eq_true rfl), (Nat.le_of_ble_eq_true rfl)⟩
def F_X9_findNearest_8 (I : WI) (a1 : Int64) (a3 : Int32) : Option WI :=
  (lpp (fun x => (F_X9_findNearest_8_1 (p2 x) a1 (p1 x))) 4294967296 (a3, I)).bind (fun q => (F_X9_findNearest_151 q a1))
theorem V_X9_findNearest_8  {I : WI} {L : WL} {a1 : Int64} {a3 : Int32} {P : WI → Prop} {t : Tg} (hb3 : bz a3 = a3) (hr : ∀ v, P v → t = (none, ly0, v, L, R0)) (kk : oP P (F_X9_findNearest_8 I a1 a3)) : V (zM x_X9_findNearest 3 0 0 t) 8 [(0, .ref 33), (1, .long a1), (3, .int a3)] [] ly0 I L R0 0 0 :=
  V_lpp (fun x => (F_X9_findNearest_8_1 (p2 x) a1 (p1 x))) (fun x => V (zM x_X9_findNearest 3 0 0 t) 8 [(0, .ref 33), (1, .long a1), (3, .int (p1 x))] [] ly0 (p2 x) L R0 0 0) (fun x => oP P ((F_X9_findNearest_151 x a1))) (s := (a3, I)) (fun x e0 => V_X9_findNearest_8_1 (P := Sum.elim (fun x => oP P ((F_X9_findNearest_151 x a1))) (fun x => V (zM x_X9_findNearest 3 0 0 t) 8 [(0, .ref 33), (1, .long a1), (3, .int (p1 x))] [] ly0 (p2 x) L R0 0 0))  (fun x e => V_X9_findNearest_151  hr e) (fun _ e => e) e0) (oP_bind (f := fun q => _) kk)
def F_X9_findNearest (I : WI) (a1 : Int64) : Option WI :=
  (F_X9_findNearest_8 (u2 I 33 33 65) a1 0)
theorem V_X9_findNearest  {I : WI} {L : WL} {a1 : Int64}  {P : WI → Prop} {t : Tg} (hr : ∀ v, P v → t = (none, ly0, v, L, R0)) (kk : oP P (F_X9_findNearest I a1)) : V (zM x_X9_findNearest 3 0 0 t) 0 [(0, .ref 33), (1, .long a1)] [] ly0 I L R0 0 0 :=
  V_aload_n (tat ok_X9_findNearest_0 (i := 0) (q := 1) rfl rfl) 0 rfl rfl <|
    V_bipush (tat ok_X9_findNearest_0 (i := 1) (q := 3) rfl rfl) bp_65 <|
    V_putI (tat ok_X9_findNearest_0 (i := 2) (q := 6) rfl rfl) fk_X9_260 rfl rfl <|
    V_iconst (tat ok_X9_findNearest_0 (i := 3) (q := 7) rfl rfl) ic_0 <|
    V_istore_n (lv' := [(3, .int 0), (0, .ref 33), (1, .long a1)]) (tat ok_X9_findNearest_0 (i := 4) (q := 8) rfl rfl) rfl (Nat.le_of_ble_eq_true rfl) rfl <|
    V_pick [1, 2, 0] rfl (V_X9_findNearest_8 rfl hr (jx (P := oP P) kk rfl))
theorem ct_X9_findNearest  (I : WI) (L : WL) (a1 : Int64)  {v : WI} (h : (F_X9_findNearest I a1) = some v) : Ct x_X9_findNearest 3 [.ref 33, .long a1] ly0 I L R0 0 0 (none, ly0, v, L, R0) :=
  Ct_of_V mo_X9_findNearest.1 (Nat.le_of_ble_eq_true rfl) (V_X9_findNearest (P := fun x => x = v)  (fun _ e => by rw [e]) (by rw [h]; exact rfl))
def F_X9_nearTold_27 (I : WI) (a1 : Int32) (s0 : Int32) : Int32 :=
  s0
theorem V_X9_nearTold_27  {I : WI} {L : WL} {a1 : Int32} {s0 : Int32} {P : Int32 → Prop} {t : Tg} (hr : ∀ v, P v → t = (some (.int v), ly0, I, L, R0)) (kk : P (F_X9_nearTold_27 I a1 s0)) : V (zM x_X9_nearTold 1 0 0 t) 27 [(0, .ref 33), (1, .int a1)] [.int s0] ly0 I L R0 0 0 :=
  V_iret (tat ok_X9_nearTold_0 (i := 13) (q := 28) rfl rfl) _ rfl (nar_int _) (hr s0 (jx (P := P) kk rfl)) ⟨(Nat.le_of_ble_eq_true rfl), (Nat.le_of_ble_eq_true rfl)⟩
def F_X9_nearTold (I : WI) (a1 : Int32) : Int32 :=
  (if a1 = 0 then (F_X9_nearTold_27 I a1 (I 33 33)) else (if a1 = 1 then (F_X9_nearTold_27 I a1 (I 33 34)) else (F_X9_nearTold_27 I a1 (I 33 35))))
theorem V_X9_nearTold  {I : WI} {L : WL} {a1 : Int32}  {P : Int32 → Prop} {t : Tg} (hr : ∀ v, P v → t = (some (.int v), ly0, I, L, R0)) (kk : P (F_X9_nearTold I a1)) : V (zM x_X9_nearTold 1 0 0 t) 0 [(0, .ref 33), (1, .int a1)] [] ly0 I L R0 0 0 :=
  V_iload_n (tat ok_X9_nearTold_0 (i := 0) (q := 1) rfl rfl) 1 rfl rfl <|
    V_if_ne (tat ok_X9_nearTold_0 (i := 1) (q := 4) rfl rfl) rfl (fun c1 => V_iload_n (tat ok_X9_nearTold_0 (i := 5) (q := 12) rfl rfl) 1 rfl rfl <|
    V_iconst (tat ok_X9_nearTold_0 (i := 6) (q := 13) rfl rfl) ic_1 <|
    V_icmp_ne (tat ok_X9_nearTold_0 (i := 7) (q := 16) rfl rfl) rfl (fun c2 => V_aload_n (tat ok_X9_nearTold_0 (i := 11) (q := 24) rfl rfl) 0 rfl rfl <|
    V_getI (tat ok_X9_nearTold_0 (i := 12) (q := 27) rfl rfl) fk_X9_266 rfl <|
    V_X9_nearTold_27  hr (jx (P := P) kk (Eq.trans (if_neg c1) (if_neg c2)))) (fun c2 => V_aload_n (tat ok_X9_nearTold_0 (i := 8) (q := 17) rfl rfl) 0 rfl rfl <|
    V_getI (tat ok_X9_nearTold_0 (i := 9) (q := 20) rfl rfl) fk_X9_263 rfl <|
    V_goto (tat ok_X9_nearTold_0 (i := 10) (q := 23) rfl rfl) rfl <|
    V_X9_nearTold_27  hr (jx (P := P) kk (Eq.trans (if_neg c1) (if_pos c2))))) (fun c1 => V_aload_n (tat ok_X9_nearTold_0 (i := 2) (q := 5) rfl rfl) 0 rfl rfl <|
    V_getI (tat ok_X9_nearTold_0 (i := 3) (q := 8) rfl rfl) fk_X9_260 rfl <|
    V_goto (tat ok_X9_nearTold_0 (i := 4) (q := 11) rfl rfl) rfl <|
    V_X9_nearTold_27  hr (jx (P := P) kk (if_pos c1)))
theorem ct_X9_nearTold  (I : WI) (L : WL) (a1 : Int32)  : Ct x_X9_nearTold 1 [.ref 33, .int a1] ly0 I L R0 0 0 (some (.int (F_X9_nearTold I a1)), ly0, I, L, R0) :=
  Ct_of_V mo_X9_nearTold.1 (Nat.le_of_ble_eq_true rfl) (V_X9_nearTold (P := fun x => x = (F_X9_nearTold I a1))  (fun _ e => by rw [e]) rfl)
def F_X9_nearest (I : WI) (L : WL) (a1 : Int32) : Option (Int32 × WI) :=
  (if (F_X9_in (Int32.toInt64 a1) 0 2) = 0 then some ((-1), I) else (if (bz (I 33 4)) = 0 then some ((-2), I) else (Option.bind (F_X9_findNearest I ((L 33 2) ^^^ (L 33 3))) (fun v3 => some ((F_X9_nearTold v3 a1), v3)))))
theorem V_X9_nearest  {I : WI} {L : WL} {a1 : Int32}  {P : (Int32 × WI) → Prop} {t : Tg} (hr : ∀ v, P v → t = (some (.int (p1 v)), ly0, (p2 v), L, R0)) (kk : oP P (F_X9_nearest I L a1)) : V (zM x_X9_nearest 4 0 0 t) 0 [(0, .ref 33), (1, .int a1)] [] ly0 I L R0 0 0 :=
  V_iload_n (tat ok_X9_nearest_0 (i := 0) (q := 1) rfl rfl) 1 rfl rfl <|
    V_i2l (tat ok_X9_nearest_0 (i := 1) (q := 2) rfl rfl) <|
    V_lconst (v := 0) (tat ok_X9_nearest_0 (i := 2) (q := 3) rfl rfl) rfl <|
    V_ldc2 (tat ok_X9_nearest_0 (i := 3) (q := 6) rfl rfl) (gw_in kl_X9_189 rfl) <|
    V_cs3 (ct_X9_in I L (Int32.toInt64 a1) 0 2 ) mo_X9_in (tat ok_X9_nearest_0 (i := 4) (q := 9) rfl rfl) ml_X9_97 ⟨(Nat.le_of_ble_eq_true rfl), (Nat.le_of_ble_eq_true rfl)⟩ ⟨(Nat.le_of_ble_eq_true rfl), (Nat.le_of_ble_eq_true rfl)⟩ (Nat.le_of_ble_eq_true rfl) <|
    V_if_ne (tat ok_X9_nearest_0 (i := 5) (q := 12) rfl rfl) rfl (fun c1 => V_aload_n (tat ok_X9_nearest_0 (i := 8) (q := 15) rfl rfl) 0 rfl rfl <|
    V_getZ (tat ok_X9_nearest_0 (i := 9) (q := 18) rfl rfl) fk_X9_86 rfl <|
    V_if_ne (tat ok_X9_nearest_0 (i := 10) (q := 21) rfl rfl) rfl (fun c2 => V_aload_n (tat ok_X9_nearest_0 (i := 13) (q := 25) rfl rfl) 0 rfl rfl <|
    V_aload_n (tat ok_X9_nearest_0 (i := 14) (q := 26) rfl rfl) 0 rfl rfl <|
    V_getL (tat ok_X9_nearest_0 (i := 15) (q := 29) rfl rfl) fk_X9_80 rfl <|
    V_aload_n (tat ok_X9_nearest_0 (i := 16) (q := 30) rfl rfl) 0 rfl rfl <|
    V_getL (tat ok_X9_nearest_0 (i := 17) (q := 33) rfl rfl) fk_X9_83 rfl <|
    V_lxor (tat ok_X9_nearest_0 (i := 18) (q := 34) rfl rfl) <|
    oP_case (jx (P := oP P) kk (Eq.trans (if_neg c1) (if_neg c2))) (fun v3 e3 _ => V_cv1v (ct_X9_findNearest I L ((L 33 2) ^^^ (L 33 3))  e3) mo_X9_findNearest (tat ok_X9_nearest_0 (i := 19) (q := 37) rfl rfl) ml_X9_269 rfl ⟨by decide, _, rfl, rfl⟩ ⟨(Nat.le_of_ble_eq_true rfl), (Nat.le_of_ble_eq_true rfl)⟩ ⟨(Nat.le_of_ble_eq_true rfl), (Nat.le_of_ble_eq_true rfl)⟩ (Nat.le_of_ble_eq_true rfl) <|
    V_aload_n (tat ok_X9_nearest_0 (i := 20) (q := 38) rfl rfl) 0 rfl rfl <|
    V_iload_n (tat ok_X9_nearest_0 (i := 21) (q := 39) rfl rfl) 1 rfl rfl <|
    V_cv1 (ct_X9_nearTold v3 L a1 ) mo_X9_nearTold (tat ok_X9_nearest_0 (i := 22) (q := 42) rfl rfl) ml_X9_273 rfl ⟨by decide, _, rfl, rfl⟩ ⟨(Nat.le_of_ble_eq_true rfl), (Nat.le_of_ble_eq_true rfl)⟩ ⟨(Nat.le_of_ble_eq_true rfl), (Nat.le_of_ble_eq_true rfl)⟩ (Nat.le_of_ble_eq_true rfl) <|
    V_iret (tat ok_X9_nearest_0 (i := 23) (q := 43) rfl rfl) _ rfl (nar_int _) (hr ((F_X9_nearTold v3 a1), v3) (jx (P := oP P) kk (Eq.trans (if_neg c1) (Eq.trans (if_neg c2) (ob e3))))) ⟨(Nat.le_of_ble_eq_true rfl), (Nat.le_of_ble_eq_true rfl)⟩)) (fun c2 => V_bipush (tat ok_X9_nearest_0 (i := 11) (q := 23) rfl rfl) bp_m2 <|
    V_iret (tat ok_X9_nearest_0 (i := 12) (q := 24) rfl rfl) _ rfl (nar_int _) (hr ((-2), I) (jx (P := oP P) kk (Eq.trans (if_neg c1) (if_pos c2)))) ⟨(Nat.le_of_ble_eq_true rfl), (Nat.le_of_ble_eq_true rfl)⟩)) (fun c1 => V_iconst (tat ok_X9_nearest_0 (i := 6) (q := 13) rfl rfl) ic_m1 <|
    V_iret (tat ok_X9_nearest_0 (i := 7) (q := 14) rfl rfl) _ rfl (nar_int _) (hr ((-1), I) (jx (P := oP P) kk (if_pos c1))) ⟨(Nat.le_of_ble_eq_true rfl), (Nat.le_of_ble_eq_true rfl)⟩)
theorem ct_X9_nearest  (I : WI) (L : WL) (a1 : Int32)  {v : (Int32 × WI)} (h : (F_X9_nearest I L a1) = some v) : Ct x_X9_nearest 4 [.ref 33, .int a1] ly0 I L R0 0 0 (some (.int (p1 v)), ly0, (p2 v), L, R0) :=
  Ct_of_V mo_X9_nearest.1 (Nat.le_of_ble_eq_true rfl) (V_X9_nearest (P := fun x => x = v)  (fun _ e => by rw [e]) (by rw [h]; exact rfl))
def F_X9_lightest (I : WI) (L : WL) (a1 : Int32) : Option (Int32 × WI) :=
  (if (F_X9_in (Int32.toInt64 a1) 0 2) = 0 then some ((-1), I) else (Option.bind (F_X9_findNearest I (L 33 2)) (fun v2 => some ((F_X9_nearTold v2 a1), v2))))
theorem V_X9_lightest  {I : WI} {L : WL} {a1 : Int32}  {P : (Int32 × WI) → Prop} {t : Tg} (hr : ∀ v, P v → t = (some (.int (p1 v)), ly0, (p2 v), L, R0)) (kk : oP P (F_X9_lightest I L a1)) : V (zM x_X9_lightest 4 0 0 t) 0 [(0, .ref 33), (1, .int a1)] [] ly0 I L R0 0 0 :=
  V_iload_n (tat ok_X9_lightest_0 (i := 0) (q := 1) rfl rfl) 1 rfl rfl <|
    V_i2l (tat ok_X9_lightest_0 (i := 1) (q := 2) rfl rfl) <|
    V_lconst (v := 0) (tat ok_X9_lightest_0 (i := 2) (q := 3) rfl rfl) rfl <|
    V_ldc2 (tat ok_X9_lightest_0 (i := 3) (q := 6) rfl rfl) (gw_in kl_X9_189 rfl) <|
    V_cs3 (ct_X9_in I L (Int32.toInt64 a1) 0 2 ) mo_X9_in (tat ok_X9_lightest_0 (i := 4) (q := 9) rfl rfl) ml_X9_97 ⟨(Nat.le_of_ble_eq_true rfl), (Nat.le_of_ble_eq_true rfl)⟩ ⟨(Nat.le_of_ble_eq_true rfl), (Nat.le_of_ble_eq_true rfl)⟩ (Nat.le_of_ble_eq_true rfl) <|
    V_if_ne (tat ok_X9_lightest_0 (i := 5) (q := 12) rfl rfl) rfl (fun c1 => V_aload_n (tat ok_X9_lightest_0 (i := 8) (q := 15) rfl rfl) 0 rfl rfl <|
    V_aload_n (tat ok_X9_lightest_0 (i := 9) (q := 16) rfl rfl) 0 rfl rfl <|
    V_getL (tat ok_X9_lightest_0 (i := 10) (q := 19) rfl rfl) fk_X9_80 rfl <|
    oP_case (jx (P := oP P) kk (if_neg c1)) (fun v2 e2 _ => V_cv1v (ct_X9_findNearest I L (L 33 2)  e2) mo_X9_findNearest (tat ok_X9_lightest_0 (i := 11) (q := 22) rfl rfl) ml_X9_269 rfl ⟨by decide, _, rfl, rfl⟩ ⟨(Nat.le_of_ble_eq_true rfl), (Nat.le_of_ble_eq_true rfl)⟩ ⟨(Nat.le_of_ble_eq_true rfl), (Nat.le_of_ble_eq_true rfl)⟩ (Nat.le_of_ble_eq_true rfl) <|
    V_aload_n (tat ok_X9_lightest_0 (i := 12) (q := 23) rfl rfl) 0 rfl rfl <|
    V_iload_n (tat ok_X9_lightest_0 (i := 13) (q := 24) rfl rfl) 1 rfl rfl <|
    V_cv1 (ct_X9_nearTold v2 L a1 ) mo_X9_nearTold (tat ok_X9_lightest_0 (i := 14) (q := 27) rfl rfl) ml_X9_273 rfl ⟨by decide, _, rfl, rfl⟩ ⟨(Nat.le_of_ble_eq_true rfl), (Nat.le_of_ble_eq_true rfl)⟩ ⟨(Nat.le_of_ble_eq_true rfl), (Nat.le_of_ble_eq_true rfl)⟩ (Nat.le_of_ble_eq_true rfl) <|
    V_iret (tat ok_X9_lightest_0 (i := 15) (q := 28) rfl rfl) _ rfl (nar_int _) (hr ((F_X9_nearTold v2 a1), v2) (jx (P := oP P) kk (Eq.trans (if_neg c1) (ob e2)))) ⟨(Nat.le_of_ble_eq_true rfl), (Nat.le_of_ble_eq_true rfl)⟩)) (fun c1 => V_iconst (tat ok_X9_lightest_0 (i := 6) (q := 13) rfl rfl) ic_m1 <|
    V_iret (tat ok_X9_lightest_0 (i := 7) (q := 14) rfl rfl) _ rfl (nar_int _) (hr ((-1), I) (jx (P := oP P) kk (if_pos c1))) ⟨(Nat.le_of_ble_eq_true rfl), (Nat.le_of_ble_eq_true rfl)⟩)
theorem ct_X9_lightest  (I : WI) (L : WL) (a1 : Int32)  {v : (Int32 × WI)} (h : (F_X9_lightest I L a1) = some v) : Ct x_X9_lightest 4 [.ref 33, .int a1] ly0 I L R0 0 0 (some (.int (p1 v)), ly0, (p2 v), L, R0) :=
  Ct_of_V mo_X9_lightest.1 (Nat.le_of_ble_eq_true rfl) (V_X9_lightest (P := fun x => x = v)  (fun _ e => by rw [e]) (by rw [h]; exact rfl))
def F_X9_mostOf_90_1 (I : WI) (a1 : Int64) (a3 : Int32) (a4 : Int32) (a6 : Int32) (s0 : Int32) : Option (Int32 ⊕ (Int32 × Int32 × Int32)) :=
  some (.inr (a4, s0, (a6 + 1)))
theorem V_X9_mostOf_90_1  {I : WI} {L : WL} {a1 : Int64} {a3 : Int32} {a4 : Int32} {a6 : Int32} {s0 : Int32} {P : (Int32 ⊕ (Int32 × Int32 × Int32)) → Prop} {t : Tg} (he : ∀ x : Int32, P (.inl x) → V (zM x_X9_mostOf 3 0 0 t) 98 [(0, .ref 33), (1, .long a1), (3, .int a3), (4, .int x)] [] ly0 I L R0 0 0) (hk : ∀ x : (Int32 × Int32 × Int32), P (.inr x) → V (zM x_X9_mostOf 3 0 0 t) 26 [(0, .ref 33), (1, .long a1), (3, .int a3), (4, .int (p1 x)), (5, .int (p1 (p2 x))), (6, .int (p2 (p2 x)))] [] ly0 I L R0 0 0) (kk : oP P (F_X9_mostOf_90_1 I a1 a3 a4 a6 s0)) : V (zM x_X9_mostOf 3 0 0 t) 90 [(0, .ref 33), (1, .long a1), (3, .int a3), (4, .int a4), (6, .int a6)] [.int s0] ly0 I L R0 0 0 :=
  V_istore (lv' := [(5, .int s0), (0, .ref 33), (1, .long a1), (3, .int a3), (4, .int a4), (6, .int a6)]) (tat ok_X9_mostOf_1 (i := 4) (q := 92) rfl rfl) (Nat.le_of_ble_eq_true rfl) rfl <|
    V_iinc (v := (a6 + 1)) (lv' := [(6, .int (a6 + 1)), (5, .int s0), (0, .ref 33), (1, .long a1), (3, .int a3), (4, .int a4)]) (tat ok_X9_mostOf_1 (i := 5) (q := 95) rfl rfl) 5 rfl (ia ic_1) (Nat.le_of_ble_eq_true rfl) rfl <|
    V_goto (tat ok_X9_mostOf_1 (i := 6) (q := 98) rfl rfl) rfl <|
    V_pick [2, 3, 4, 5, 1, 0] rfl (hk (a4, s0, (a6 + 1)) (jx (P := oP P) kk rfl))
def F_X9_mostOf_74_1 (I : WI) (a1 : Int64) (a3 : Int32) (a5 : Int32) (a6 : Int32) (a7 : Int32) (s0 : Int32) : Option (Int32 ⊕ (Int32 × Int32 × Int32)) :=
  (if a7 ≤ a5 then (F_X9_mostOf_90_1 I a1 a3 s0 a6 a5) else (F_X9_mostOf_90_1 I a1 a3 s0 a6 a7))
theorem V_X9_mostOf_74_1  {I : WI} {L : WL} {a1 : Int64} {a3 : Int32} {a5 : Int32} {a6 : Int32} {a7 : Int32} {s0 : Int32} {P : (Int32 ⊕ (Int32 × Int32 × Int32)) → Prop} {t : Tg} (he : ∀ x : Int32, P (.inl x) → V (zM x_X9_mostOf 3 0 0 t) 98 [(0, .ref 33), (1, .long a1), (3, .int a3), (4, .int x)] [] ly0 I L R0 0 0) (hk : ∀ x : (Int32 × Int32 × Int32), P (.inr x) → V (zM x_X9_mostOf 3 0 0 t) 26 [(0, .ref 33), (1, .long a1), (3, .int a3), (4, .int (p1 x)), (5, .int (p1 (p2 x))), (6, .int (p2 (p2 x)))] [] ly0 I L R0 0 0) (kk : oP P (F_X9_mostOf_74_1 I a1 a3 a5 a6 a7 s0)) : V (zM x_X9_mostOf 3 0 0 t) 74 [(0, .ref 33), (1, .long a1), (3, .int a3), (5, .int a5), (6, .int a6), (7, .int a7)] [.int s0] ly0 I L R0 0 0 :=
  V_istore (lv' := [(4, .int s0), (0, .ref 33), (1, .long a1), (3, .int a3), (5, .int a5), (6, .int a6), (7, .int a7)]) (tat ok_X9_mostOf_0 (i := 37) (q := 76) rfl rfl) (Nat.le_of_ble_eq_true rfl) rfl <|
    V_iload (tat ok_X9_mostOf_0 (i := 38) (q := 78) rfl rfl) 6 rfl <|
    V_iload (tat ok_X9_mostOf_0 (i := 39) (q := 80) rfl rfl) 4 rfl <|
    V_icmp_le (tat ok_X9_mostOf_1 (i := 0) (q := 83) rfl rfl) rfl (fun c5 => V_iload (tat ok_X9_mostOf_1 (i := 3) (q := 90) rfl rfl) 4 rfl <|
    V_pick [1, 2, 3, 0, 5] rfl (V_X9_mostOf_90_1  he hk (jx (P := oP P) kk (if_pos c5)))) (fun c5 => V_iload (tat ok_X9_mostOf_1 (i := 1) (q := 85) rfl rfl) 6 rfl <|
    V_goto (tat ok_X9_mostOf_1 (i := 2) (q := 88) rfl rfl) rfl <|
    V_pick [1, 2, 3, 0, 5] rfl (V_X9_mostOf_90_1  he hk (jx (P := oP P) kk (if_neg c5))))
def F_X9_mostOf_43_1 (I : WI) (a1 : Int64) (a3 : Int32) (a4 : Int32) (a5 : Int32) (a6 : Int32) (s0 : Int32) (s1 : Int32) : Option (Int32 ⊕ (Int32 × Int32 × Int32)) :=
  (if s0 ≤ s1 then some (.inl a4) else (if (F_X9_many (a1 &&& (F_X9_actSet I a3 a6))) ≤ a5 then (F_X9_mostOf_74_1 I a1 a3 a5 a6 (F_X9_many (a1 &&& (F_X9_actSet I a3 a6))) a4) else (F_X9_mostOf_74_1 I a1 a3 a5 a6 (F_X9_many (a1 &&& (F_X9_actSet I a3 a6))) a6)))
theorem V_X9_mostOf_43_1  {I : WI} {L : WL} {a1 : Int64} {a3 : Int32} {a4 : Int32} {a5 : Int32} {a6 : Int32} {s0 : Int32} {s1 : Int32} {P : (Int32 ⊕ (Int32 × Int32 × Int32)) → Prop} {t : Tg} (he : ∀ x : Int32, P (.inl x) → V (zM x_X9_mostOf 3 0 0 t) 98 [(0, .ref 33), (1, .long a1), (3, .int a3), (4, .int x)] [] ly0 I L R0 0 0) (hk : ∀ x : (Int32 × Int32 × Int32), P (.inr x) → V (zM x_X9_mostOf 3 0 0 t) 26 [(0, .ref 33), (1, .long a1), (3, .int a3), (4, .int (p1 x)), (5, .int (p1 (p2 x))), (6, .int (p2 (p2 x)))] [] ly0 I L R0 0 0) (kk : oP P (F_X9_mostOf_43_1 I a1 a3 a4 a5 a6 s0 s1)) : V (zM x_X9_mostOf 3 0 0 t) 43 [(0, .ref 33), (1, .long a1), (3, .int a3), (4, .int a4), (5, .int a5), (6, .int a6)] [.int s0, .int s1] ly0 I L R0 0 0 :=
  V_icmp_ge (tat ok_X9_mostOf_0 (i := 22) (q := 46) rfl rfl) rfl (fun c3 => V_pick [0, 1, 2, 3] rfl (he a4 (jx (P := oP P) kk (if_pos c3)))) (fun c3 => V_lload_n (tat ok_X9_mostOf_0 (i := 23) (q := 47) rfl rfl) 1 rfl rfl <|
    V_aload_n (tat ok_X9_mostOf_0 (i := 24) (q := 48) rfl rfl) 0 rfl rfl <|
    V_iload_n (tat ok_X9_mostOf_0 (i := 25) (q := 49) rfl rfl) 2 rfl rfl <|
    V_iload (tat ok_X9_mostOf_0 (i := 26) (q := 51) rfl rfl) 5 rfl <|
    V_cv2 (ct_X9_actSet I L a3 a6 ) mo_X9_actSet (tat ok_X9_mostOf_0 (i := 27) (q := 54) rfl rfl) ml_X9_217 rfl ⟨by decide, _, rfl, rfl⟩ ⟨(Nat.le_of_ble_eq_true rfl), (Nat.le_of_ble_eq_true rfl)⟩ ⟨(Nat.le_of_ble_eq_true rfl), (Nat.le_of_ble_eq_true rfl)⟩ (Nat.le_of_ble_eq_true rfl) <|
    V_land (tat ok_X9_mostOf_0 (i := 28) (q := 55) rfl rfl) <|
    V_cs1 (ct_X9_many I L (a1 &&& (F_X9_actSet I a3 a6)) ) mo_X9_many (tat ok_X9_mostOf_0 (i := 29) (q := 58) rfl rfl) ml_X9_220 ⟨(Nat.le_of_ble_eq_true rfl), (Nat.le_of_ble_eq_true rfl)⟩ ⟨(Nat.le_of_ble_eq_true rfl), (Nat.le_of_ble_eq_true rfl)⟩ (Nat.le_of_ble_eq_true rfl) <|
    V_istore (lv' := [(7, .int (F_X9_many (a1 &&& (F_X9_actSet I a3 a6)))), (0, .ref 33), (1, .long a1), (3, .int a3), (4, .int a4), (5, .int a5), (6, .int a6)]) (tat ok_X9_mostOf_0 (i := 30) (q := 60) rfl rfl) (Nat.le_of_ble_eq_true rfl) rfl <|
    V_iload (tat ok_X9_mostOf_0 (i := 31) (q := 62) rfl rfl) 0 rfl <|
    V_iload (tat ok_X9_mostOf_0 (i := 32) (q := 64) rfl rfl) 5 rfl <|
    V_icmp_le (tat ok_X9_mostOf_0 (i := 33) (q := 67) rfl rfl) rfl (fun c4 => V_iload (tat ok_X9_mostOf_0 (i := 36) (q := 74) rfl rfl) 4 rfl <|
    V_pick [1, 2, 3, 5, 6, 0] rfl (V_X9_mostOf_74_1  he hk (jx (P := oP P) kk (Eq.trans (if_neg c3) (if_pos c4))))) (fun c4 => V_iload (tat ok_X9_mostOf_0 (i := 34) (q := 69) rfl rfl) 6 rfl <|
    V_goto (tat ok_X9_mostOf_0 (i := 35) (q := 72) rfl rfl) rfl <|
    V_pick [1, 2, 3, 5, 6, 0] rfl (V_X9_mostOf_74_1  he hk (jx (P := oP P) kk (Eq.trans (if_neg c3) (if_neg c4))))))
def F_X9_mostOf_26_1 (I : WI) (a1 : Int64) (a3 : Int32) (a4 : Int32) (a5 : Int32) (a6 : Int32) : Option (Int32 ⊕ (Int32 × Int32 × Int32)) :=
  (if a3 = 0 then (F_X9_mostOf_43_1 I a1 a3 a4 a5 a6 (I 33 0) a6) else (F_X9_mostOf_43_1 I a1 a3 a4 a5 a6 (I 33 1) a6))
theorem V_X9_mostOf_26_1  {I : WI} {L : WL} {a1 : Int64} {a3 : Int32} {a4 : Int32} {a5 : Int32} {a6 : Int32} {P : (Int32 ⊕ (Int32 × Int32 × Int32)) → Prop} {t : Tg} (he : ∀ x : Int32, P (.inl x) → V (zM x_X9_mostOf 3 0 0 t) 98 [(0, .ref 33), (1, .long a1), (3, .int a3), (4, .int x)] [] ly0 I L R0 0 0) (hk : ∀ x : (Int32 × Int32 × Int32), P (.inr x) → V (zM x_X9_mostOf 3 0 0 t) 26 [(0, .ref 33), (1, .long a1), (3, .int a3), (4, .int (p1 x)), (5, .int (p1 (p2 x))), (6, .int (p2 (p2 x)))] [] ly0 I L R0 0 0) (kk : oP P (F_X9_mostOf_26_1 I a1 a3 a4 a5 a6)) : V (zM x_X9_mostOf 3 0 0 t) 26 [(0, .ref 33), (1, .long a1), (3, .int a3), (4, .int a4), (5, .int a5), (6, .int a6)] [] ly0 I L R0 0 0 :=
  V_iload (tat ok_X9_mostOf_0 (i := 14) (q := 28) rfl rfl) 5 rfl <|
    V_iload_n (tat ok_X9_mostOf_0 (i := 15) (q := 29) rfl rfl) 2 rfl rfl <|
    V_if_ne (tat ok_X9_mostOf_0 (i := 16) (q := 32) rfl rfl) rfl (fun c2 => V_aload_n (tat ok_X9_mostOf_0 (i := 20) (q := 40) rfl rfl) 0 rfl rfl <|
    V_getI (tat ok_X9_mostOf_0 (i := 21) (q := 43) rfl rfl) fk_X9_77 rfl <|
    V_X9_mostOf_43_1  he hk (jx (P := oP P) kk (if_neg c2))) (fun c2 => V_aload_n (tat ok_X9_mostOf_0 (i := 17) (q := 33) rfl rfl) 0 rfl rfl <|
    V_getI (tat ok_X9_mostOf_0 (i := 18) (q := 36) rfl rfl) fk_X9_74 rfl <|
    V_goto (tat ok_X9_mostOf_0 (i := 19) (q := 39) rfl rfl) rfl <|
    V_X9_mostOf_43_1  he hk (jx (P := oP P) kk (if_pos c2)))
def F_X9_mostOf_98 (I : WI) (a1 : Int64) (a3 : Int32) (a4 : Int32) : Option Int32 :=
  some a4
theorem V_X9_mostOf_98  {I : WI} {L : WL} {a1 : Int64} {a3 : Int32} {a4 : Int32} {P : Int32 → Prop} {t : Tg} (hr : ∀ v, P v → t = (some (.int v), ly0, I, L, R0)) (kk : oP P (F_X9_mostOf_98 I a1 a3 a4)) : V (zM x_X9_mostOf 3 0 0 t) 98 [(0, .ref 33), (1, .long a1), (3, .int a3), (4, .int a4)] [] ly0 I L R0 0 0 :=
  V_iload (tat ok_X9_mostOf_1 (i := 7) (q := 100) rfl rfl) 3 rfl <|
    V_iret (tat ok_X9_mostOf_1 (i := 8) (q := 101) rfl rfl) _ rfl (nar_int _) (hr a4 (jx (P := oP P) kk rfl)) ⟨(Nat.le_of_ble_eq_true rfl), (Nat.le_of_ble_eq_true rfl)⟩
def F_X9_mostOf_26 (I : WI) (a1 : Int64) (a3 : Int32) (a4 : Int32) (a5 : Int32) (a6 : Int32) : Option Int32 :=
  (lpp (fun x => (F_X9_mostOf_26_1 I a1 a3 (p1 x) (p1 (p2 x)) (p2 (p2 x)))) 4294967296 (a4, a5, a6)).bind (fun q => (F_X9_mostOf_98 I a1 a3 q))
theorem V_X9_mostOf_26  {I : WI} {L : WL} {a1 : Int64} {a3 : Int32} {a4 : Int32} {a5 : Int32} {a6 : Int32} {P : Int32 → Prop} {t : Tg} (hb6 : bz a6 = a6) (hr : ∀ v, P v → t = (some (.int v), ly0, I, L, R0)) (kk : oP P (F_X9_mostOf_26 I a1 a3 a4 a5 a6)) : V (zM x_X9_mostOf 3 0 0 t) 26 [(0, .ref 33), (1, .long a1), (3, .int a3), (4, .int a4), (5, .int a5), (6, .int a6)] [] ly0 I L R0 0 0 :=
  V_lpp (fun x => (F_X9_mostOf_26_1 I a1 a3 (p1 x) (p1 (p2 x)) (p2 (p2 x)))) (fun x => V (zM x_X9_mostOf 3 0 0 t) 26 [(0, .ref 33), (1, .long a1), (3, .int a3), (4, .int (p1 x)), (5, .int (p1 (p2 x))), (6, .int (p2 (p2 x)))] [] ly0 I L R0 0 0) (fun x => oP P ((F_X9_mostOf_98 I a1 a3 x))) (s := (a4, a5, a6)) (fun x e0 => V_X9_mostOf_26_1 (P := Sum.elim (fun x => oP P ((F_X9_mostOf_98 I a1 a3 x))) (fun x => V (zM x_X9_mostOf 3 0 0 t) 26 [(0, .ref 33), (1, .long a1), (3, .int a3), (4, .int (p1 x)), (5, .int (p1 (p2 x))), (6, .int (p2 (p2 x)))] [] ly0 I L R0 0 0))  (fun x e => V_X9_mostOf_98  hr e) (fun _ e => e) e0) (oP_bind (f := fun q => _) kk)
def F_X9_mostOf_19 (I : WI) (a1 : Int64) (a3 : Int32) (a4 : Int32) (s0 : Int32) : Option Int32 :=
  (F_X9_mostOf_26 I a1 a3 a4 (s0 / 2) 0)
theorem V_X9_mostOf_19  {I : WI} {L : WL} {a1 : Int64} {a3 : Int32} {a4 : Int32} {s0 : Int32} {P : Int32 → Prop} {t : Tg} (hr : ∀ v, P v → t = (some (.int v), ly0, I, L, R0)) (kk : oP P (F_X9_mostOf_19 I a1 a3 a4 s0)) : V (zM x_X9_mostOf 3 0 0 t) 19 [(0, .ref 33), (1, .long a1), (3, .int a3), (4, .int a4)] [.int s0] ly0 I L R0 0 0 :=
  V_iconst (tat ok_X9_mostOf_0 (i := 9) (q := 20) rfl rfl) ic_2 <|
    V_idiv (tat ok_X9_mostOf_0 (i := 10) (q := 21) rfl rfl) (by decide) <|
    V_istore (lv' := [(5, .int (s0 / 2)), (0, .ref 33), (1, .long a1), (3, .int a3), (4, .int a4)]) (tat ok_X9_mostOf_0 (i := 11) (q := 23) rfl rfl) (Nat.le_of_ble_eq_true rfl) rfl <|
    V_iconst (tat ok_X9_mostOf_0 (i := 12) (q := 24) rfl rfl) ic_0 <|
    V_istore (lv' := [(6, .int 0), (5, .int (s0 / 2)), (0, .ref 33), (1, .long a1), (3, .int a3), (4, .int a4)]) (tat ok_X9_mostOf_0 (i := 13) (q := 26) rfl rfl) (Nat.le_of_ble_eq_true rfl) rfl <|
    V_pick [2, 3, 4, 5, 1, 0] rfl (V_X9_mostOf_26 rfl hr (jx (P := oP P) kk rfl))
def F_X9_mostOf (I : WI) (a1 : Int64) (a3 : Int32) : Option Int32 :=
  (if a3 = 0 then (F_X9_mostOf_19 I a1 a3 (-4) (I 33 1)) else (F_X9_mostOf_19 I a1 a3 (-4) (I 33 0)))
theorem V_X9_mostOf  {I : WI} {L : WL} {a1 : Int64} {a3 : Int32}  {P : Int32 → Prop} {t : Tg} (hr : ∀ v, P v → t = (some (.int v), ly0, I, L, R0)) (kk : oP P (F_X9_mostOf I a1 a3)) : V (zM x_X9_mostOf 3 0 0 t) 0 [(0, .ref 33), (1, .long a1), (3, .int a3)] [] ly0 I L R0 0 0 :=
  V_bipush (tat ok_X9_mostOf_0 (i := 0) (q := 2) rfl rfl) bp_m4 <|
    V_istore (lv' := [(4, .int (-4)), (0, .ref 33), (1, .long a1), (3, .int a3)]) (tat ok_X9_mostOf_0 (i := 1) (q := 4) rfl rfl) (Nat.le_of_ble_eq_true rfl) rfl <|
    V_iload_n (tat ok_X9_mostOf_0 (i := 2) (q := 5) rfl rfl) 3 rfl rfl <|
    V_if_ne (tat ok_X9_mostOf_0 (i := 3) (q := 8) rfl rfl) rfl (fun c1 => V_aload_n (tat ok_X9_mostOf_0 (i := 7) (q := 16) rfl rfl) 1 rfl rfl <|
    V_getI (tat ok_X9_mostOf_0 (i := 8) (q := 19) rfl rfl) fk_X9_74 rfl <|
    V_pick [1, 2, 3, 0] rfl (V_X9_mostOf_19  hr (jx (P := oP P) kk (if_neg c1)))) (fun c1 => V_aload_n (tat ok_X9_mostOf_0 (i := 4) (q := 9) rfl rfl) 1 rfl rfl <|
    V_getI (tat ok_X9_mostOf_0 (i := 5) (q := 12) rfl rfl) fk_X9_77 rfl <|
    V_goto (tat ok_X9_mostOf_0 (i := 6) (q := 15) rfl rfl) rfl <|
    V_pick [1, 2, 3, 0] rfl (V_X9_mostOf_19  hr (jx (P := oP P) kk (if_pos c1))))
theorem ct_X9_mostOf  (I : WI) (L : WL) (a1 : Int64) (a3 : Int32)  {v : Int32} (h : (F_X9_mostOf I a1 a3) = some v) : Ct x_X9_mostOf 3 [.ref 33, .long a1, .int a3] ly0 I L R0 0 0 (some (.int v), ly0, I, L, R0) :=
  Ct_of_V mo_X9_mostOf.1 (Nat.le_of_ble_eq_true rfl) (V_X9_mostOf (P := fun x => x = v)  (fun _ e => by rw [e]) (by rw [h]; exact rfl))
def F_X9_blind_104_1 (I : WI) (L : WL) (a1 : Int32) (a4 : Int32) (s0 : Int64) (s1 : Int64) : Option ((Int64 × Int32) ⊕ (Int64 × Int32)) :=
  some (.inr ((s1 ^^^ s0), (a4 + 1)))
theorem V_X9_blind_104_1  {I : WI} {L : WL} {a1 : Int32} {a4 : Int32} {s0 : Int64} {s1 : Int64} {P : ((Int64 × Int32) ⊕ (Int64 × Int32)) → Prop} {t : Tg} (he : ∀ x : (Int64 × Int32), P (.inl x) → V (zM x_X9_blind 4 0 0 t) 112 [(0, .ref 33), (1, .int a1), (2, .long (p1 x)), (4, .int (p2 x))] [] ly0 I L R0 0 0) (hk : ∀ x : (Int64 × Int32), P (.inr x) → V (zM x_X9_blind 4 0 0 t) 35 [(0, .ref 33), (1, .int a1), (2, .long (p1 x)), (4, .int (p2 x))] [] ly0 I L R0 0 0) (kk : oP P (F_X9_blind_104_1 I L a1 a4 s0 s1)) : V (zM x_X9_blind 4 0 0 t) 104 [(0, .ref 33), (1, .int a1), (4, .int a4)] [.long s0, .long s1] ly0 I L R0 0 0 :=
  V_lxor (tat ok_X9_blind_1 (i := 20) (q := 105) rfl rfl) <|
    V_lstore_n (lv' := [(2, .long (s1 ^^^ s0)), (0, .ref 33), (1, .int a1), (4, .int a4)]) (tat ok_X9_blind_1 (i := 21) (q := 106) rfl rfl) rfl (Nat.le_of_ble_eq_true rfl) rfl <|
    V_iinc (v := (a4 + 1)) (lv' := [(4, .int (a4 + 1)), (2, .long (s1 ^^^ s0)), (0, .ref 33), (1, .int a1)]) (tat ok_X9_blind_1 (i := 22) (q := 109) rfl rfl) 3 rfl (ia ic_1) (Nat.le_of_ble_eq_true rfl) rfl <|
    V_goto (tat ok_X9_blind_1 (i := 23) (q := 112) rfl rfl) rfl <|
    V_pick [2, 3, 1, 0] rfl (hk ((s1 ^^^ s0), (a4 + 1)) (jx (P := oP P) kk rfl))
def F_X9_blind_83_1 (I : WI) (L : WL) (a1 : Int32) (a4 : Int32) (a6 : Int32) (s0 : Int64) (s1 : Int64) : Option ((Int64 × Int32) ⊕ (Int64 × Int32)) :=
  (if a6 = (-4) then (F_X9_blind_104_1 I L a1 a4 0 (s1 ^^^ s0)) else (F_X9_blind_104_1 I L a1 a4 (F_X9_actSet I 1 a6) (s1 ^^^ s0)))
theorem V_X9_blind_83_1  {I : WI} {L : WL} {a1 : Int32} {a4 : Int32} {a6 : Int32} {s0 : Int64} {s1 : Int64} {P : ((Int64 × Int32) ⊕ (Int64 × Int32)) → Prop} {t : Tg} (he : ∀ x : (Int64 × Int32), P (.inl x) → V (zM x_X9_blind 4 0 0 t) 112 [(0, .ref 33), (1, .int a1), (2, .long (p1 x)), (4, .int (p2 x))] [] ly0 I L R0 0 0) (hk : ∀ x : (Int64 × Int32), P (.inr x) → V (zM x_X9_blind 4 0 0 t) 35 [(0, .ref 33), (1, .int a1), (2, .long (p1 x)), (4, .int (p2 x))] [] ly0 I L R0 0 0) (kk : oP P (F_X9_blind_83_1 I L a1 a4 a6 s0 s1)) : V (zM x_X9_blind 4 0 0 t) 83 [(0, .ref 33), (1, .int a1), (4, .int a4), (6, .int a6)] [.long s0, .long s1] ly0 I L R0 0 0 :=
  V_lxor (tat ok_X9_blind_1 (i := 8) (q := 84) rfl rfl) <|
    V_lstore_n (lv' := [(2, .long (s1 ^^^ s0)), (0, .ref 33), (1, .int a1), (4, .int a4), (6, .int a6)]) (tat ok_X9_blind_1 (i := 9) (q := 85) rfl rfl) rfl (Nat.le_of_ble_eq_true rfl) rfl <|
    V_lload_n (tat ok_X9_blind_1 (i := 10) (q := 86) rfl rfl) 0 rfl rfl <|
    V_iload (tat ok_X9_blind_1 (i := 11) (q := 88) rfl rfl) 4 rfl <|
    V_bipush (tat ok_X9_blind_1 (i := 12) (q := 90) rfl rfl) bp_m4 <|
    V_icmp_ne (tat ok_X9_blind_1 (i := 13) (q := 93) rfl rfl) rfl (fun c8 => V_aload_n (tat ok_X9_blind_1 (i := 16) (q := 98) rfl rfl) 1 rfl rfl <|
    V_iconst (tat ok_X9_blind_1 (i := 17) (q := 99) rfl rfl) ic_1 <|
    V_iload (tat ok_X9_blind_1 (i := 18) (q := 101) rfl rfl) 4 rfl <|
    V_cv2 (ct_X9_actSet I L 1 a6 ) mo_X9_actSet (tat ok_X9_blind_1 (i := 19) (q := 104) rfl rfl) ml_X9_217 rfl ⟨by decide, _, rfl, rfl⟩ ⟨(Nat.le_of_ble_eq_true rfl), (Nat.le_of_ble_eq_true rfl)⟩ ⟨(Nat.le_of_ble_eq_true rfl), (Nat.le_of_ble_eq_true rfl)⟩ (Nat.le_of_ble_eq_true rfl) <|
    V_pick [1, 2, 3] rfl (V_X9_blind_104_1  he hk (jx (P := oP P) kk (if_neg c8)))) (fun c8 => V_lconst (v := 0) (tat ok_X9_blind_1 (i := 14) (q := 94) rfl rfl) rfl <|
    V_goto (tat ok_X9_blind_1 (i := 15) (q := 97) rfl rfl) rfl <|
    V_pick [1, 2, 3] rfl (V_X9_blind_104_1  he hk (jx (P := oP P) kk (if_pos c8))))
def F_X9_blind_35_1 (I : WI) (L : WL) (a1 : Int32) (a2 : Int64) (a4 : Int32) : Option ((Int64 × Int32) ⊕ (Int64 × Int32)) :=
  (if 60 ≤ a4 then some (.inl (a2, a4)) else (if (lg_cmp a2 0) = 0 then some (.inl (a2, a4)) else (Option.bind (F_X9_mostOf I a2 0) (fun v5 => (Option.bind (F_X9_mostOf I a2 1) (fun v6 => (if v5 = (-4) then (F_X9_blind_83_1 I L a1 a4 v6 0 a2) else (F_X9_blind_83_1 I L a1 a4 v6 (F_X9_actSet I 0 v5) a2))))))))
theorem V_X9_blind_35_1  {I : WI} {L : WL} {a1 : Int32} {a2 : Int64} {a4 : Int32} {P : ((Int64 × Int32) ⊕ (Int64 × Int32)) → Prop} {t : Tg} (he : ∀ x : (Int64 × Int32), P (.inl x) → V (zM x_X9_blind 4 0 0 t) 112 [(0, .ref 33), (1, .int a1), (2, .long (p1 x)), (4, .int (p2 x))] [] ly0 I L R0 0 0) (hk : ∀ x : (Int64 × Int32), P (.inr x) → V (zM x_X9_blind 4 0 0 t) 35 [(0, .ref 33), (1, .int a1), (2, .long (p1 x)), (4, .int (p2 x))] [] ly0 I L R0 0 0) (kk : oP P (F_X9_blind_35_1 I L a1 a2 a4)) : V (zM x_X9_blind 4 0 0 t) 35 [(0, .ref 33), (1, .int a1), (2, .long a2), (4, .int a4)] [] ly0 I L R0 0 0 :=
  V_iload (tat ok_X9_blind_0 (i := 21) (q := 37) rfl rfl) 3 rfl <|
    V_bipush (tat ok_X9_blind_0 (i := 22) (q := 39) rfl rfl) bp_60 <|
    V_icmp_ge (tat ok_X9_blind_0 (i := 23) (q := 42) rfl rfl) rfl (fun c3 => he (a2, a4) (jx (P := oP P) kk (if_pos c3))) (fun c3 => V_lload_n (tat ok_X9_blind_0 (i := 24) (q := 43) rfl rfl) 2 rfl rfl <|
    V_lconst (v := 0) (tat ok_X9_blind_0 (i := 25) (q := 44) rfl rfl) rfl <|
    V_lcmp (tat ok_X9_blind_0 (i := 26) (q := 45) rfl rfl) <|
    V_if_eq (tat ok_X9_blind_0 (i := 27) (q := 48) rfl rfl) rfl (fun c4 => he (a2, a4) (jx (P := oP P) kk (Eq.trans (if_neg c3) (if_pos c4)))) (fun c4 => V_aload_n (tat ok_X9_blind_0 (i := 28) (q := 49) rfl rfl) 0 rfl rfl <|
    V_lload_n (tat ok_X9_blind_0 (i := 29) (q := 50) rfl rfl) 2 rfl rfl <|
    V_iconst (tat ok_X9_blind_0 (i := 30) (q := 51) rfl rfl) ic_0 <|
    oP_case (jx (P := oP P) kk (Eq.trans (if_neg c3) (if_neg c4))) (fun v5 e5 _ => V_cv2 (ct_X9_mostOf I L a2 0  e5) mo_X9_mostOf (tat ok_X9_blind_0 (i := 31) (q := 54) rfl rfl) ml_X9_276 rfl ⟨by decide, _, rfl, rfl⟩ ⟨(Nat.le_of_ble_eq_true rfl), (Nat.le_of_ble_eq_true rfl)⟩ ⟨(Nat.le_of_ble_eq_true rfl), (Nat.le_of_ble_eq_true rfl)⟩ (Nat.le_of_ble_eq_true rfl) <|
    V_istore (lv' := [(5, .int v5), (0, .ref 33), (1, .int a1), (2, .long a2), (4, .int a4)]) (tat ok_X9_blind_0 (i := 32) (q := 56) rfl rfl) (Nat.le_of_ble_eq_true rfl) rfl <|
    V_aload_n (tat ok_X9_blind_0 (i := 33) (q := 57) rfl rfl) 1 rfl rfl <|
    V_lload_n (tat ok_X9_blind_0 (i := 34) (q := 58) rfl rfl) 3 rfl rfl <|
    V_iconst (tat ok_X9_blind_0 (i := 35) (q := 59) rfl rfl) ic_1 <|
    oP_case (jx (P := oP P) kk (Eq.trans (if_neg c3) (Eq.trans (if_neg c4) (ob e5)))) (fun v6 e6 _ => V_cv2 (ct_X9_mostOf I L a2 1  e6) mo_X9_mostOf (tat ok_X9_blind_0 (i := 36) (q := 62) rfl rfl) ml_X9_276 rfl ⟨by decide, _, rfl, rfl⟩ ⟨(Nat.le_of_ble_eq_true rfl), (Nat.le_of_ble_eq_true rfl)⟩ ⟨(Nat.le_of_ble_eq_true rfl), (Nat.le_of_ble_eq_true rfl)⟩ (Nat.le_of_ble_eq_true rfl) <|
    V_istore (lv' := [(6, .int v6), (5, .int v5), (0, .ref 33), (1, .int a1), (2, .long a2), (4, .int a4)]) (tat ok_X9_blind_0 (i := 37) (q := 64) rfl rfl) (Nat.le_of_ble_eq_true rfl) rfl <|
    V_lload_n (tat ok_X9_blind_0 (i := 38) (q := 65) rfl rfl) 4 rfl rfl <|
    V_iload (tat ok_X9_blind_0 (i := 39) (q := 67) rfl rfl) 1 rfl <|
    V_bipush (tat ok_X9_blind_1 (i := 0) (q := 69) rfl rfl) bp_m4 <|
    V_icmp_ne (tat ok_X9_blind_1 (i := 1) (q := 72) rfl rfl) rfl (fun c7 => V_aload_n (tat ok_X9_blind_1 (i := 4) (q := 77) rfl rfl) 2 rfl rfl <|
    V_iconst (tat ok_X9_blind_1 (i := 5) (q := 78) rfl rfl) ic_0 <|
    V_iload (tat ok_X9_blind_1 (i := 6) (q := 80) rfl rfl) 1 rfl <|
    V_cv2 (ct_X9_actSet I L 0 v5 ) mo_X9_actSet (tat ok_X9_blind_1 (i := 7) (q := 83) rfl rfl) ml_X9_217 rfl ⟨by decide, _, rfl, rfl⟩ ⟨(Nat.le_of_ble_eq_true rfl), (Nat.le_of_ble_eq_true rfl)⟩ ⟨(Nat.le_of_ble_eq_true rfl), (Nat.le_of_ble_eq_true rfl)⟩ (Nat.le_of_ble_eq_true rfl) <|
    V_pick [2, 3, 5, 0] rfl (V_X9_blind_83_1  he hk (jx (P := oP P) kk (Eq.trans (if_neg c3) (Eq.trans (if_neg c4) (Eq.trans (ob e5) (Eq.trans (ob e6) (if_neg c7)))))))) (fun c7 => V_lconst (v := 0) (tat ok_X9_blind_1 (i := 2) (q := 73) rfl rfl) rfl <|
    V_goto (tat ok_X9_blind_1 (i := 3) (q := 76) rfl rfl) rfl <|
    V_pick [2, 3, 5, 0] rfl (V_X9_blind_83_1  he hk (jx (P := oP P) kk (Eq.trans (if_neg c3) (Eq.trans (if_neg c4) (Eq.trans (ob e5) (Eq.trans (ob e6) (if_pos c7))))))))))))
def F_X9_blind_137 (I : WI) (L : WL) (a1 : Int32) (s0 : Int32) : Option Int32 :=
  some s0
theorem V_X9_blind_137  {I : WI} {L : WL} {a1 : Int32} {s0 : Int32} {P : Int32 → Prop} {t : Tg} (hr : ∀ v, P v → t = (some (.int v), ly0, I, L, R0)) (kk : oP P (F_X9_blind_137 I L a1 s0)) : V (zM x_X9_blind 4 0 0 t) 137 [(0, .ref 33), (1, .int a1)] [.int s0] ly0 I L R0 0 0 :=
  V_iret (tat ok_X9_blind_1 (i := 37) (q := 138) rfl rfl) _ rfl (nar_int _) (hr s0 (jx (P := oP P) kk rfl)) ⟨(Nat.le_of_ble_eq_true rfl), (Nat.le_of_ble_eq_true rfl)⟩
def F_X9_blind_112 (I : WI) (L : WL) (a1 : Int32) (a2 : Int64) (a4 : Int32) : Option Int32 :=
  (if a1 = 1 then (F_X9_blind_137 I L a1 (F_X9_many a2)) else (if (lg_cmp a2 0) = 0 then (F_X9_blind_137 I L a1 a4) else (F_X9_blind_137 I L a1 (-4))))
theorem V_X9_blind_112  {I : WI} {L : WL} {a1 : Int32} {a2 : Int64} {a4 : Int32} {P : Int32 → Prop} {t : Tg} (hr : ∀ v, P v → t = (some (.int v), ly0, I, L, R0)) (kk : oP P (F_X9_blind_112 I L a1 a2 a4)) : V (zM x_X9_blind 4 0 0 t) 112 [(0, .ref 33), (1, .int a1), (2, .long a2), (4, .int a4)] [] ly0 I L R0 0 0 :=
  V_iload_n (tat ok_X9_blind_1 (i := 24) (q := 113) rfl rfl) 1 rfl rfl <|
    V_iconst (tat ok_X9_blind_1 (i := 25) (q := 114) rfl rfl) ic_1 <|
    V_icmp_ne (tat ok_X9_blind_1 (i := 26) (q := 117) rfl rfl) rfl (fun c9 => V_lload_n (tat ok_X9_blind_1 (i := 30) (q := 125) rfl rfl) 2 rfl rfl <|
    V_lconst (v := 0) (tat ok_X9_blind_1 (i := 31) (q := 126) rfl rfl) rfl <|
    V_lcmp (tat ok_X9_blind_1 (i := 32) (q := 127) rfl rfl) <|
    V_if_ne (tat ok_X9_blind_1 (i := 33) (q := 130) rfl rfl) rfl (fun c10 => V_bipush (tat ok_X9_blind_1 (i := 36) (q := 137) rfl rfl) bp_m4 <|
    V_pick [0, 1] rfl (V_X9_blind_137  hr (jx (P := oP P) kk (Eq.trans (if_neg c9) (if_neg c10))))) (fun c10 => V_iload (tat ok_X9_blind_1 (i := 34) (q := 132) rfl rfl) 3 rfl <|
    V_goto (tat ok_X9_blind_1 (i := 35) (q := 135) rfl rfl) rfl <|
    V_pick [0, 1] rfl (V_X9_blind_137  hr (jx (P := oP P) kk (Eq.trans (if_neg c9) (if_pos c10)))))) (fun c9 => V_lload_n (tat ok_X9_blind_1 (i := 27) (q := 118) rfl rfl) 2 rfl rfl <|
    V_cs1 (ct_X9_many I L a2 ) mo_X9_many (tat ok_X9_blind_1 (i := 28) (q := 121) rfl rfl) ml_X9_220 ⟨(Nat.le_of_ble_eq_true rfl), (Nat.le_of_ble_eq_true rfl)⟩ ⟨(Nat.le_of_ble_eq_true rfl), (Nat.le_of_ble_eq_true rfl)⟩ (Nat.le_of_ble_eq_true rfl) <|
    V_goto (tat ok_X9_blind_1 (i := 29) (q := 124) rfl rfl) rfl <|
    V_pick [0, 1] rfl (V_X9_blind_137  hr (jx (P := oP P) kk (if_pos c9))))
def F_X9_blind_35 (I : WI) (L : WL) (a1 : Int32) (a2 : Int64) (a4 : Int32) : Option Int32 :=
  (lpp (fun x => (F_X9_blind_35_1 I L a1 (p1 x) (p2 x))) 4294967296 (a2, a4)).bind (fun q => (F_X9_blind_112 I L a1 (p1 q) (p2 q)))
theorem V_X9_blind_35  {I : WI} {L : WL} {a1 : Int32} {a2 : Int64} {a4 : Int32} {P : Int32 → Prop} {t : Tg} (hb4 : bz a4 = a4) (hr : ∀ v, P v → t = (some (.int v), ly0, I, L, R0)) (kk : oP P (F_X9_blind_35 I L a1 a2 a4)) : V (zM x_X9_blind 4 0 0 t) 35 [(0, .ref 33), (1, .int a1), (2, .long a2), (4, .int a4)] [] ly0 I L R0 0 0 :=
  V_lpp (fun x => (F_X9_blind_35_1 I L a1 (p1 x) (p2 x))) (fun x => V (zM x_X9_blind 4 0 0 t) 35 [(0, .ref 33), (1, .int a1), (2, .long (p1 x)), (4, .int (p2 x))] [] ly0 I L R0 0 0) (fun x => oP P ((F_X9_blind_112 I L a1 (p1 x) (p2 x)))) (s := (a2, a4)) (fun x e0 => V_X9_blind_35_1 (P := Sum.elim (fun x => oP P ((F_X9_blind_112 I L a1 (p1 x) (p2 x)))) (fun x => V (zM x_X9_blind 4 0 0 t) 35 [(0, .ref 33), (1, .int a1), (2, .long (p1 x)), (4, .int (p2 x))] [] ly0 I L R0 0 0))  (fun x e => V_X9_blind_112  hr e) (fun _ e => e) e0) (oP_bind (f := fun q => _) kk)
def F_X9_blind (I : WI) (L : WL) (a1 : Int32) : Option Int32 :=
  (if (F_X9_in (Int32.toInt64 a1) 0 1) = 0 then some (-1) else (if (bz (I 33 4)) = 0 then some (-2) else (F_X9_blind_35 I L a1 ((L 33 2) ^^^ (L 33 3)) 0)))
theorem V_X9_blind  {I : WI} {L : WL} {a1 : Int32}  {P : Int32 → Prop} {t : Tg} (hr : ∀ v, P v → t = (some (.int v), ly0, I, L, R0)) (kk : oP P (F_X9_blind I L a1)) : V (zM x_X9_blind 4 0 0 t) 0 [(0, .ref 33), (1, .int a1)] [] ly0 I L R0 0 0 :=
  V_iload_n (tat ok_X9_blind_0 (i := 0) (q := 1) rfl rfl) 1 rfl rfl <|
    V_i2l (tat ok_X9_blind_0 (i := 1) (q := 2) rfl rfl) <|
    V_lconst (v := 0) (tat ok_X9_blind_0 (i := 2) (q := 3) rfl rfl) rfl <|
    V_lconst (v := 1) (tat ok_X9_blind_0 (i := 3) (q := 4) rfl rfl) rfl <|
    V_cs3 (ct_X9_in I L (Int32.toInt64 a1) 0 1 ) mo_X9_in (tat ok_X9_blind_0 (i := 4) (q := 7) rfl rfl) ml_X9_97 ⟨(Nat.le_of_ble_eq_true rfl), (Nat.le_of_ble_eq_true rfl)⟩ ⟨(Nat.le_of_ble_eq_true rfl), (Nat.le_of_ble_eq_true rfl)⟩ (Nat.le_of_ble_eq_true rfl) <|
    V_if_ne (tat ok_X9_blind_0 (i := 5) (q := 10) rfl rfl) rfl (fun c1 => V_aload_n (tat ok_X9_blind_0 (i := 8) (q := 13) rfl rfl) 0 rfl rfl <|
    V_getZ (tat ok_X9_blind_0 (i := 9) (q := 16) rfl rfl) fk_X9_86 rfl <|
    V_if_ne (tat ok_X9_blind_0 (i := 10) (q := 19) rfl rfl) rfl (fun c2 => V_aload_n (tat ok_X9_blind_0 (i := 13) (q := 23) rfl rfl) 0 rfl rfl <|
    V_getL (tat ok_X9_blind_0 (i := 14) (q := 26) rfl rfl) fk_X9_80 rfl <|
    V_aload_n (tat ok_X9_blind_0 (i := 15) (q := 27) rfl rfl) 0 rfl rfl <|
    V_getL (tat ok_X9_blind_0 (i := 16) (q := 30) rfl rfl) fk_X9_83 rfl <|
    V_lxor (tat ok_X9_blind_0 (i := 17) (q := 31) rfl rfl) <|
    V_lstore_n (lv' := [(2, .long ((L 33 2) ^^^ (L 33 3))), (0, .ref 33), (1, .int a1)]) (tat ok_X9_blind_0 (i := 18) (q := 32) rfl rfl) rfl (Nat.le_of_ble_eq_true rfl) rfl <|
    V_iconst (tat ok_X9_blind_0 (i := 19) (q := 33) rfl rfl) ic_0 <|
    V_istore (lv' := [(4, .int 0), (2, .long ((L 33 2) ^^^ (L 33 3))), (0, .ref 33), (1, .int a1)]) (tat ok_X9_blind_0 (i := 20) (q := 35) rfl rfl) (Nat.le_of_ble_eq_true rfl) rfl <|
    V_pick [2, 3, 1, 0] rfl (V_X9_blind_35 rfl hr (jx (P := oP P) kk (Eq.trans (if_neg c1) (if_neg c2))))) (fun c2 => V_bipush (tat ok_X9_blind_0 (i := 11) (q := 21) rfl rfl) bp_m2 <|
    V_iret (tat ok_X9_blind_0 (i := 12) (q := 22) rfl rfl) _ rfl (nar_int _) (hr (-2) (jx (P := oP P) kk (Eq.trans (if_neg c1) (if_pos c2)))) ⟨(Nat.le_of_ble_eq_true rfl), (Nat.le_of_ble_eq_true rfl)⟩)) (fun c1 => V_iconst (tat ok_X9_blind_0 (i := 6) (q := 11) rfl rfl) ic_m1 <|
    V_iret (tat ok_X9_blind_0 (i := 7) (q := 12) rfl rfl) _ rfl (nar_int _) (hr (-1) (jx (P := oP P) kk (if_pos c1))) ⟨(Nat.le_of_ble_eq_true rfl), (Nat.le_of_ble_eq_true rfl)⟩)
theorem ct_X9_blind  (I : WI) (L : WL) (a1 : Int32)  {v : Int32} (h : (F_X9_blind I L a1) = some v) : Ct x_X9_blind 4 [.ref 33, .int a1] ly0 I L R0 0 0 (some (.int v), ly0, I, L, R0) :=
  Ct_of_V mo_X9_blind.1 (Nat.le_of_ble_eq_true rfl) (V_X9_blind (P := fun x => x = v)  (fun _ e => by rw [e]) (by rw [h]; exact rfl))
def F_X9_isBefore_72 (a1 : Int32) (a2 : Int32) (a3 : Int32) (a4 : Int32) (a5 : Int32) (a6 : Int32) (a7 : Int32) (a8 : Int32) (s0 : Int32) : Int32 :=
  s0
theorem V_X9_isBefore_72  {I : WI} {L : WL} {a1 : Int32} {a2 : Int32} {a3 : Int32} {a4 : Int32} {a5 : Int32} {a6 : Int32} {a7 : Int32} {a8 : Int32} {s0 : Int32} {P : Int32 → Prop} {t : Tg} (hs0 : bz s0 = s0) (hr : ∀ v, P v → t = (some (.int v), ly0, I, L, R0)) (kk : P (F_X9_isBefore_72 a1 a2 a3 a4 a5 a6 a7 a8 s0)) : V (zM x_X9_isBefore 1 0 0 t) 72 [(0, .ref 33), (1, .int a1), (2, .int a2), (3, .int a3), (4, .int a4), (5, .int a5), (6, .int a6), (7, .int a7), (8, .int a8)] [.int s0] ly0 I L R0 0 0 :=
  V_iret (tat ok_X9_isBefore_0 (i := 36) (q := 73) rfl rfl) _ rfl (bz_nf hs0).1 (hr s0 (jx (P := P) kk rfl)) ⟨(Nat.le_of_ble_eq_true rfl), (Nat.le_of_ble_eq_true rfl)⟩
def F_X9_isBefore (a1 : Int32) (a2 : Int32) (a3 : Int32) (a4 : Int32) (a5 : Int32) (a6 : Int32) (a7 : Int32) (a8 : Int32) : Int32 :=
  (if a1 = a5 then (if a2 = a6 then (if a3 = a7 then (if a8 ≤ a4 then (F_X9_isBefore_72 a1 a2 a3 a4 a5 a6 a7 a8 0) else (F_X9_isBefore_72 a1 a2 a3 a4 a5 a6 a7 a8 1)) else (if a7 ≤ a3 then (F_X9_isBefore_72 a1 a2 a3 a4 a5 a6 a7 a8 0) else (F_X9_isBefore_72 a1 a2 a3 a4 a5 a6 a7 a8 1))) else (if a6 ≤ a2 then (F_X9_isBefore_72 a1 a2 a3 a4 a5 a6 a7 a8 0) else (F_X9_isBefore_72 a1 a2 a3 a4 a5 a6 a7 a8 1))) else (if a5 ≤ a1 then (F_X9_isBefore_72 a1 a2 a3 a4 a5 a6 a7 a8 0) else (F_X9_isBefore_72 a1 a2 a3 a4 a5 a6 a7 a8 1)))
theorem V_X9_isBefore  {I : WI} {L : WL} {a1 : Int32} {a2 : Int32} {a3 : Int32} {a4 : Int32} {a5 : Int32} {a6 : Int32} {a7 : Int32} {a8 : Int32}  {P : Int32 → Prop} {t : Tg} (hr : ∀ v, P v → t = (some (.int v), ly0, I, L, R0)) (kk : P (F_X9_isBefore a1 a2 a3 a4 a5 a6 a7 a8)) : V (zM x_X9_isBefore 1 0 0 t) 0 [(0, .ref 33), (1, .int a1), (2, .int a2), (3, .int a3), (4, .int a4), (5, .int a5), (6, .int a6), (7, .int a7), (8, .int a8)] [] ly0 I L R0 0 0 :=
  V_iload_n (tat ok_X9_isBefore_0 (i := 0) (q := 1) rfl rfl) 1 rfl rfl <|
    V_iload (tat ok_X9_isBefore_0 (i := 1) (q := 3) rfl rfl) 5 rfl <|
    V_icmp_eq (tat ok_X9_isBefore_0 (i := 2) (q := 6) rfl rfl) rfl (fun c1 => V_iload_n (tat ok_X9_isBefore_0 (i := 10) (q := 21) rfl rfl) 2 rfl rfl <|
    V_iload (tat ok_X9_isBefore_0 (i := 11) (q := 23) rfl rfl) 6 rfl <|
    V_icmp_eq (tat ok_X9_isBefore_0 (i := 12) (q := 26) rfl rfl) rfl (fun c2 => V_iload_n (tat ok_X9_isBefore_0 (i := 20) (q := 41) rfl rfl) 3 rfl rfl <|
    V_iload (tat ok_X9_isBefore_0 (i := 21) (q := 43) rfl rfl) 7 rfl <|
    V_icmp_eq (tat ok_X9_isBefore_0 (i := 22) (q := 46) rfl rfl) rfl (fun c3 => V_iload (tat ok_X9_isBefore_0 (i := 30) (q := 62) rfl rfl) 4 rfl <|
    V_iload (tat ok_X9_isBefore_0 (i := 31) (q := 64) rfl rfl) 8 rfl <|
    V_icmp_ge (tat ok_X9_isBefore_0 (i := 32) (q := 67) rfl rfl) rfl (fun c4 => V_iconst (tat ok_X9_isBefore_0 (i := 35) (q := 72) rfl rfl) ic_0 <|
    V_X9_isBefore_72 rfl hr (jx (P := P) kk (Eq.trans (if_pos c1) (Eq.trans (if_pos c2) (Eq.trans (if_pos c3) (if_pos c4)))))) (fun c4 => V_iconst (tat ok_X9_isBefore_0 (i := 33) (q := 68) rfl rfl) ic_1 <|
    V_goto (tat ok_X9_isBefore_0 (i := 34) (q := 71) rfl rfl) rfl <|
    V_X9_isBefore_72 rfl hr (jx (P := P) kk (Eq.trans (if_pos c1) (Eq.trans (if_pos c2) (Eq.trans (if_pos c3) (if_neg c4))))))) (fun c3 => V_iload_n (tat ok_X9_isBefore_0 (i := 23) (q := 47) rfl rfl) 3 rfl rfl <|
    V_iload (tat ok_X9_isBefore_0 (i := 24) (q := 49) rfl rfl) 7 rfl <|
    V_icmp_ge (tat ok_X9_isBefore_0 (i := 25) (q := 52) rfl rfl) rfl (fun c5 => V_iconst (tat ok_X9_isBefore_0 (i := 28) (q := 57) rfl rfl) ic_0 <|
    V_goto (tat ok_X9_isBefore_0 (i := 29) (q := 60) rfl rfl) rfl <|
    V_X9_isBefore_72 rfl hr (jx (P := P) kk (Eq.trans (if_pos c1) (Eq.trans (if_pos c2) (Eq.trans (if_neg c3) (if_pos c5)))))) (fun c5 => V_iconst (tat ok_X9_isBefore_0 (i := 26) (q := 53) rfl rfl) ic_1 <|
    V_goto (tat ok_X9_isBefore_0 (i := 27) (q := 56) rfl rfl) rfl <|
    V_X9_isBefore_72 rfl hr (jx (P := P) kk (Eq.trans (if_pos c1) (Eq.trans (if_pos c2) (Eq.trans (if_neg c3) (if_neg c5)))))))) (fun c2 => V_iload_n (tat ok_X9_isBefore_0 (i := 13) (q := 27) rfl rfl) 2 rfl rfl <|
    V_iload (tat ok_X9_isBefore_0 (i := 14) (q := 29) rfl rfl) 6 rfl <|
    V_icmp_ge (tat ok_X9_isBefore_0 (i := 15) (q := 32) rfl rfl) rfl (fun c6 => V_iconst (tat ok_X9_isBefore_0 (i := 18) (q := 37) rfl rfl) ic_0 <|
    V_goto (tat ok_X9_isBefore_0 (i := 19) (q := 40) rfl rfl) rfl <|
    V_X9_isBefore_72 rfl hr (jx (P := P) kk (Eq.trans (if_pos c1) (Eq.trans (if_neg c2) (if_pos c6))))) (fun c6 => V_iconst (tat ok_X9_isBefore_0 (i := 16) (q := 33) rfl rfl) ic_1 <|
    V_goto (tat ok_X9_isBefore_0 (i := 17) (q := 36) rfl rfl) rfl <|
    V_X9_isBefore_72 rfl hr (jx (P := P) kk (Eq.trans (if_pos c1) (Eq.trans (if_neg c2) (if_neg c6))))))) (fun c1 => V_iload_n (tat ok_X9_isBefore_0 (i := 3) (q := 7) rfl rfl) 1 rfl rfl <|
    V_iload (tat ok_X9_isBefore_0 (i := 4) (q := 9) rfl rfl) 5 rfl <|
    V_icmp_ge (tat ok_X9_isBefore_0 (i := 5) (q := 12) rfl rfl) rfl (fun c7 => V_iconst (tat ok_X9_isBefore_0 (i := 8) (q := 17) rfl rfl) ic_0 <|
    V_goto (tat ok_X9_isBefore_0 (i := 9) (q := 20) rfl rfl) rfl <|
    V_X9_isBefore_72 rfl hr (jx (P := P) kk (Eq.trans (if_neg c1) (if_pos c7)))) (fun c7 => V_iconst (tat ok_X9_isBefore_0 (i := 6) (q := 13) rfl rfl) ic_1 <|
    V_goto (tat ok_X9_isBefore_0 (i := 7) (q := 16) rfl rfl) rfl <|
    V_X9_isBefore_72 rfl hr (jx (P := P) kk (Eq.trans (if_neg c1) (if_neg c7)))))
theorem ct_X9_isBefore  (I : WI) (L : WL) (a1 : Int32) (a2 : Int32) (a3 : Int32) (a4 : Int32) (a5 : Int32) (a6 : Int32) (a7 : Int32) (a8 : Int32)  : Ct x_X9_isBefore 1 [.ref 33, .int a1, .int a2, .int a3, .int a4, .int a5, .int a6, .int a7, .int a8] ly0 I L R0 0 0 (some (.int (F_X9_isBefore a1 a2 a3 a4 a5 a6 a7 a8)), ly0, I, L, R0) :=
  Ct_of_V mo_X9_isBefore.1 (Nat.le_of_ble_eq_true rfl) (V_X9_isBefore (P := fun x => x = (F_X9_isBefore a1 a2 a3 a4 a5 a6 a7 a8))  (fun _ e => by rw [e]) rfl)
def F_X9_slanted_35 (I : WI) (L : WL) (a1 : Int32) : Option (Int32 × WI) :=
  some ((-2), I)
theorem V_X9_slanted_35  {I : WI} {L : WL} {a1 : Int32}  {P : (Int32 × WI) → Prop} {t : Tg} (hr : ∀ v, P v → t = (some (.int (p1 v)), ly0, (p2 v), L, R0)) (kk : oP P (F_X9_slanted_35 I L a1)) : V (zM x_X9_slanted 5 0 0 t) 35 [(0, .ref 33), (1, .int a1)] [] ly0 I L R0 0 0 :=
  V_bipush (tat ok_X9_slanted_0 (i := 18) (q := 37) rfl rfl) bp_m2 <|
    V_iret (tat ok_X9_slanted_0 (i := 19) (q := 38) rfl rfl) _ rfl (nar_int _) (hr ((-2), I) (jx (P := oP P) kk rfl)) ⟨(Nat.le_of_ble_eq_true rfl), (Nat.le_of_ble_eq_true rfl)⟩
def F_X9_slanted_124_2 (I : WI) (L : WL) (a1 : Int32) (a2 : Int32) (a3 : Int32) (a4 : Int32) (a5 : Int32) (a6 : Int32) (a9 : Int32) (s0 : Int64) (s1 : Int64) : Option Int64 :=
  some (s1 ^^^ s0)
theorem V_X9_slanted_124_2  {I : WI} {L : WL} {a1 : Int32} {a2 : Int32} {a3 : Int32} {a4 : Int32} {a5 : Int32} {a6 : Int32} {a9 : Int32} {s0 : Int64} {s1 : Int64} {P : Int64 → Prop} {t : Tg} (hk : ∀ x : Int64, P x → V (zM x_X9_slanted 5 0 0 t) 84 [(0, .ref 33), (1, .int a1), (2, .int a2), (3, .int a3), (4, .int a4), (5, .int a5), (6, .int a6), (7, .long x), (9, .int (a9 + 1))] [] ly0 I L R0 0 0) (kk : oP P (F_X9_slanted_124_2 I L a1 a2 a3 a4 a5 a6 a9 s0 s1)) : V (zM x_X9_slanted 5 0 0 t) 124 [(0, .ref 33), (1, .int a1), (2, .int a2), (3, .int a3), (4, .int a4), (5, .int a5), (6, .int a6), (9, .int a9)] [.long s0, .long s1] ly0 I L R0 0 0 :=
  V_lxor (tat ok_X9_slanted_1 (i := 32) (q := 125) rfl rfl) <|
    V_lstore (lv' := [(7, .long (s1 ^^^ s0)), (0, .ref 33), (1, .int a1), (2, .int a2), (3, .int a3), (4, .int a4), (5, .int a5), (6, .int a6), (9, .int a9)]) (tat ok_X9_slanted_1 (i := 33) (q := 127) rfl rfl) (Nat.le_of_ble_eq_true rfl) rfl <|
    V_iinc (v := (a9 + 1)) (lv' := [(9, .int (a9 + 1)), (7, .long (s1 ^^^ s0)), (0, .ref 33), (1, .int a1), (2, .int a2), (3, .int a3), (4, .int a4), (5, .int a5), (6, .int a6)]) (tat ok_X9_slanted_1 (i := 34) (q := 130) rfl rfl) 8 rfl (ia ic_1) (Nat.le_of_ble_eq_true rfl) rfl <|
    V_goto (tat ok_X9_slanted_1 (i := 35) (q := 133) rfl rfl) rfl <|
    V_pick [2, 3, 4, 5, 6, 7, 8, 1, 0] rfl (hk (s1 ^^^ s0) (jx (P := oP P) kk rfl))
def F_X9_slanted_100_2 (I : WI) (L : WL) (a1 : Int32) (a2 : Int32) (a3 : Int32) (a4 : Int32) (a5 : Int32) (a6 : Int32) (a9 : Int32) (a7 : Int64) : Option Int64 :=
  (if ((a6 >>> (a9 &&& 31)) &&& 1) = 1 then (F_X9_slanted_124_2 I L a1 a2 a3 a4 a5 a6 a9 (F_X9_actSet I 2 a9) a7) else (F_X9_slanted_124_2 I L a1 a2 a3 a4 a5 a6 a9 0 a7))
theorem V_X9_slanted_100_2  {I : WI} {L : WL} {a1 : Int32} {a2 : Int32} {a3 : Int32} {a4 : Int32} {a5 : Int32} {a6 : Int32} {a9 : Int32} {a7 : Int64} {P : Int64 → Prop} {t : Tg} (hk : ∀ x : Int64, P x → V (zM x_X9_slanted 5 0 0 t) 84 [(0, .ref 33), (1, .int a1), (2, .int a2), (3, .int a3), (4, .int a4), (5, .int a5), (6, .int a6), (7, .long x), (9, .int (a9 + 1))] [] ly0 I L R0 0 0) (kk : oP P (F_X9_slanted_100_2 I L a1 a2 a3 a4 a5 a6 a9 a7)) : V (zM x_X9_slanted 5 0 0 t) 100 [(0, .ref 33), (1, .int a1), (2, .int a2), (3, .int a3), (4, .int a4), (5, .int a5), (6, .int a6), (7, .long a7), (9, .int a9)] [] ly0 I L R0 0 0 :=
  V_lload (tat ok_X9_slanted_1 (i := 18) (q := 102) rfl rfl) 7 rfl <|
    V_iload (tat ok_X9_slanted_1 (i := 19) (q := 104) rfl rfl) 6 rfl <|
    V_iload (tat ok_X9_slanted_1 (i := 20) (q := 106) rfl rfl) 8 rfl <|
    V_ishr (tat ok_X9_slanted_1 (i := 21) (q := 107) rfl rfl) <|
    V_iconst (tat ok_X9_slanted_1 (i := 22) (q := 108) rfl rfl) ic_1 <|
    V_iand (tat ok_X9_slanted_1 (i := 23) (q := 109) rfl rfl) <|
    V_iconst (tat ok_X9_slanted_1 (i := 24) (q := 110) rfl rfl) ic_1 <|
    V_icmp_ne (tat ok_X9_slanted_1 (i := 25) (q := 113) rfl rfl) rfl (fun c5 => V_lconst (v := 0) (tat ok_X9_slanted_1 (i := 31) (q := 124) rfl rfl) rfl <|
    V_pick [0, 1, 2, 3, 4, 5, 6, 8] rfl (V_X9_slanted_124_2  hk (jx (P := oP P) kk (if_neg c5)))) (fun c5 => V_aload_n (tat ok_X9_slanted_1 (i := 26) (q := 114) rfl rfl) 0 rfl rfl <|
    V_iconst (tat ok_X9_slanted_1 (i := 27) (q := 115) rfl rfl) ic_2 <|
    V_iload (tat ok_X9_slanted_1 (i := 28) (q := 117) rfl rfl) 8 rfl <|
    V_cv2 (ct_X9_actSet I L 2 a9 ) mo_X9_actSet (tat ok_X9_slanted_1 (i := 29) (q := 120) rfl rfl) ml_X9_217 rfl ⟨by decide, _, rfl, rfl⟩ ⟨(Nat.le_of_ble_eq_true rfl), (Nat.le_of_ble_eq_true rfl)⟩ ⟨(Nat.le_of_ble_eq_true rfl), (Nat.le_of_ble_eq_true rfl)⟩ (Nat.le_of_ble_eq_true rfl) <|
    V_goto (tat ok_X9_slanted_1 (i := 30) (q := 123) rfl rfl) rfl <|
    V_pick [0, 1, 2, 3, 4, 5, 6, 8] rfl (V_X9_slanted_124_2  hk (jx (P := oP P) kk (if_pos c5))))
def F_X9_slanted_319_1 (I : WI) (L : WL) (a1 : Int32) (a2 : Int32) (a3 : Int32) (a4 : Int32) (a5 : Int32) (a6 : Int32) : Option ((Int32 × Int32 × Int32 × Int32 × WI) ⊕ (Int32 × Int32 × Int32 × Int32 × Int32 × WI)) :=
  some (.inr (a2, a3, a4, a5, (a6 + 1), I))
theorem V_X9_slanted_319_1  {I : WI} {L : WL} {a1 : Int32} {a2 : Int32} {a3 : Int32} {a4 : Int32} {a5 : Int32} {a6 : Int32} {P : ((Int32 × Int32 × Int32 × Int32 × WI) ⊕ (Int32 × Int32 × Int32 × Int32 × Int32 × WI)) → Prop} {t : Tg} (he : ∀ x : (Int32 × Int32 × Int32 × Int32 × WI), P (.inl x) → V (zM x_X9_slanted 5 0 0 t) 325 [(0, .ref 33), (1, .int a1), (2, .int (p1 x)), (3, .int (p1 (p2 x))), (4, .int (p1 (p2 (p2 x)))), (5, .int (p1 (p2 (p2 (p2 x)))))] [] ly0 (p2 (p2 (p2 (p2 x)))) L R0 0 0) (hk : ∀ x : (Int32 × Int32 × Int32 × Int32 × Int32 × WI), P (.inr x) → V (zM x_X9_slanted 5 0 0 t) 52 [(0, .ref 33), (1, .int a1), (2, .int (p1 x)), (3, .int (p1 (p2 x))), (4, .int (p1 (p2 (p2 x)))), (5, .int (p1 (p2 (p2 (p2 x))))), (6, .int (p1 (p2 (p2 (p2 (p2 x))))))] [] ly0 (p2 (p2 (p2 (p2 (p2 x))))) L R0 0 0) (kk : oP P (F_X9_slanted_319_1 I L a1 a2 a3 a4 a5 a6)) : V (zM x_X9_slanted 5 0 0 t) 319 [(0, .ref 33), (1, .int a1), (2, .int a2), (3, .int a3), (4, .int a4), (5, .int a5), (6, .int a6)] [] ly0 I L R0 0 0 :=
  V_iinc (v := (a6 + 1)) (lv' := [(6, .int (a6 + 1)), (0, .ref 33), (1, .int a1), (2, .int a2), (3, .int a3), (4, .int a4), (5, .int a5)]) (tat ok_X9_slanted_4 (i := 11) (q := 322) rfl rfl) 6 rfl (ia ic_1) (Nat.le_of_ble_eq_true rfl) rfl <|
    V_goto (tat ok_X9_slanted_4 (i := 12) (q := 325) rfl rfl) rfl <|
    V_pick [1, 2, 3, 4, 5, 6, 0] rfl (hk (a2, a3, a4, a5, (a6 + 1), I) (jx (P := oP P) kk rfl))
def F_X9_slanted_311_3 (I : WI) (L : WL) (a1 : Int32) (a6 : Int32) (a9 : Int32) (a2 : Int32) (a3 : Int32) (a4 : Int32) (s0 : Int32) : Option (Int32 × Int32 × Int32 × Int32) :=
  some (a2, a3, a4, s0)
theorem V_X9_slanted_311_3  {I : WI} {L : WL} {a1 : Int32} {a6 : Int32} {a9 : Int32} {a2 : Int32} {a3 : Int32} {a4 : Int32} {s0 : Int32} {P : (Int32 × Int32 × Int32 × Int32) → Prop} {t : Tg} (hk : ∀ x : (Int32 × Int32 × Int32 × Int32), P x → V (zM x_X9_slanted 5 0 0 t) 145 [(0, .ref 33), (1, .int a1), (2, .int (p1 x)), (3, .int (p1 (p2 x))), (4, .int (p1 (p2 (p2 x)))), (5, .int (p2 (p2 (p2 x)))), (6, .int a6), (9, .int (a9 + 1))] [] ly0 I L R0 0 0) (kk : oP P (F_X9_slanted_311_3 I L a1 a6 a9 a2 a3 a4 s0)) : V (zM x_X9_slanted 5 0 0 t) 311 [(0, .ref 33), (1, .int a1), (2, .int a2), (3, .int a3), (4, .int a4), (6, .int a6), (9, .int a9)] [.int s0] ly0 I L R0 0 0 :=
  V_istore (lv' := [(5, .int s0), (0, .ref 33), (1, .int a1), (2, .int a2), (3, .int a3), (4, .int a4), (6, .int a6), (9, .int a9)]) (tat ok_X9_slanted_4 (i := 8) (q := 313) rfl rfl) (Nat.le_of_ble_eq_true rfl) rfl <|
    V_iinc (v := (a9 + 1)) (lv' := [(9, .int (a9 + 1)), (5, .int s0), (0, .ref 33), (1, .int a1), (2, .int a2), (3, .int a3), (4, .int a4), (6, .int a6)]) (tat ok_X9_slanted_4 (i := 9) (q := 316) rfl rfl) 7 rfl (ia ic_1) (Nat.le_of_ble_eq_true rfl) rfl <|
    V_goto (tat ok_X9_slanted_4 (i := 10) (q := 319) rfl rfl) rfl <|
    V_pick [2, 3, 4, 5, 6, 1, 7, 0] rfl (hk (a2, a3, a4, s0) (jx (P := oP P) kk rfl))
def F_X9_slanted_297_3 (I : WI) (L : WL) (a1 : Int32) (a6 : Int32) (a9 : Int32) (a2 : Int32) (a3 : Int32) (a5 : Int32) (a13 : Int32) (s0 : Int32) : Option (Int32 × Int32 × Int32 × Int32) :=
  (if a13 = 0 then (F_X9_slanted_311_3 I L a1 a6 a9 a2 a3 s0 a5) else (F_X9_slanted_311_3 I L a1 a6 a9 a2 a3 s0 a6))
theorem V_X9_slanted_297_3  {I : WI} {L : WL} {a1 : Int32} {a6 : Int32} {a9 : Int32} {a2 : Int32} {a3 : Int32} {a5 : Int32} {a13 : Int32} {s0 : Int32} {P : (Int32 × Int32 × Int32 × Int32) → Prop} {t : Tg} (hb13 : bz a13 = a13) (hk : ∀ x : (Int32 × Int32 × Int32 × Int32), P x → V (zM x_X9_slanted 5 0 0 t) 145 [(0, .ref 33), (1, .int a1), (2, .int (p1 x)), (3, .int (p1 (p2 x))), (4, .int (p1 (p2 (p2 x)))), (5, .int (p2 (p2 (p2 x)))), (6, .int a6), (9, .int (a9 + 1))] [] ly0 I L R0 0 0) (kk : oP P (F_X9_slanted_297_3 I L a1 a6 a9 a2 a3 a5 a13 s0)) : V (zM x_X9_slanted 5 0 0 t) 297 [(0, .ref 33), (1, .int a1), (2, .int a2), (3, .int a3), (5, .int a5), (6, .int a6), (9, .int a9), (13, .int a13)] [.int s0] ly0 I L R0 0 0 :=
  V_istore (lv' := [(4, .int s0), (0, .ref 33), (1, .int a1), (2, .int a2), (3, .int a3), (5, .int a5), (6, .int a6), (9, .int a9), (13, .int a13)]) (tat ok_X9_slanted_4 (i := 2) (q := 299) rfl rfl) (Nat.le_of_ble_eq_true rfl) rfl <|
    V_iload (tat ok_X9_slanted_4 (i := 3) (q := 301) rfl rfl) 8 rfl <|
    V_if_eq (tat ok_X9_slanted_4 (i := 4) (q := 304) rfl rfl) rfl (fun c13 => V_iload (tat ok_X9_slanted_4 (i := 7) (q := 311) rfl rfl) 5 rfl <|
    V_pick [1, 2, 3, 4, 0, 6, 7] rfl (V_X9_slanted_311_3  hk (jx (P := oP P) kk (if_pos c13)))) (fun c13 => V_iload (tat ok_X9_slanted_4 (i := 5) (q := 306) rfl rfl) 6 rfl <|
    V_goto (tat ok_X9_slanted_4 (i := 6) (q := 309) rfl rfl) rfl <|
    V_pick [1, 2, 3, 4, 0, 6, 7] rfl (V_X9_slanted_311_3  hk (jx (P := oP P) kk (if_neg c13))))
def F_X9_slanted_284_3 (I : WI) (L : WL) (a1 : Int32) (a6 : Int32) (a9 : Int32) (a2 : Int32) (a4 : Int32) (a5 : Int32) (a11 : Int32) (a13 : Int32) (s0 : Int32) : Option (Int32 × Int32 × Int32 × Int32) :=
  (if a13 = 0 then (F_X9_slanted_297_3 I L a1 a6 a9 a2 s0 a5 a13 a4) else (F_X9_slanted_297_3 I L a1 a6 a9 a2 s0 a5 a13 a11))
theorem V_X9_slanted_284_3  {I : WI} {L : WL} {a1 : Int32} {a6 : Int32} {a9 : Int32} {a2 : Int32} {a4 : Int32} {a5 : Int32} {a11 : Int32} {a13 : Int32} {s0 : Int32} {P : (Int32 × Int32 × Int32 × Int32) → Prop} {t : Tg} (hb13 : bz a13 = a13) (hk : ∀ x : (Int32 × Int32 × Int32 × Int32), P x → V (zM x_X9_slanted 5 0 0 t) 145 [(0, .ref 33), (1, .int a1), (2, .int (p1 x)), (3, .int (p1 (p2 x))), (4, .int (p1 (p2 (p2 x)))), (5, .int (p2 (p2 (p2 x)))), (6, .int a6), (9, .int (a9 + 1))] [] ly0 I L R0 0 0) (kk : oP P (F_X9_slanted_284_3 I L a1 a6 a9 a2 a4 a5 a11 a13 s0)) : V (zM x_X9_slanted 5 0 0 t) 284 [(0, .ref 33), (1, .int a1), (2, .int a2), (4, .int a4), (5, .int a5), (6, .int a6), (9, .int a9), (11, .int a11), (13, .int a13)] [.int s0] ly0 I L R0 0 0 :=
  V_istore_n (lv' := [(3, .int s0), (0, .ref 33), (1, .int a1), (2, .int a2), (4, .int a4), (5, .int a5), (6, .int a6), (9, .int a9), (11, .int a11), (13, .int a13)]) (tat ok_X9_slanted_3 (i := 36) (q := 285) rfl rfl) rfl (Nat.le_of_ble_eq_true rfl) rfl <|
    V_iload (tat ok_X9_slanted_3 (i := 37) (q := 287) rfl rfl) 9 rfl <|
    V_if_eq (tat ok_X9_slanted_3 (i := 38) (q := 290) rfl rfl) rfl (fun c12 => V_iload (tat ok_X9_slanted_4 (i := 1) (q := 297) rfl rfl) 4 rfl <|
    V_pick [1, 2, 3, 0, 5, 6, 7, 9] rfl (V_X9_slanted_297_3 hb13 hk (jx (P := oP P) kk (if_pos c12)))) (fun c12 => V_iload (tat ok_X9_slanted_3 (i := 39) (q := 292) rfl rfl) 8 rfl <|
    V_goto (tat ok_X9_slanted_4 (i := 0) (q := 295) rfl rfl) rfl <|
    V_pick [1, 2, 3, 0, 5, 6, 7, 9] rfl (V_X9_slanted_297_3 hb13 hk (jx (P := oP P) kk (if_neg c12))))
def F_X9_slanted_272_3 (I : WI) (L : WL) (a1 : Int32) (a6 : Int32) (a9 : Int32) (a3 : Int32) (a4 : Int32) (a5 : Int32) (a10 : Int32) (a11 : Int32) (a13 : Int32) (s0 : Int32) : Option (Int32 × Int32 × Int32 × Int32) :=
  (if a13 = 0 then (F_X9_slanted_284_3 I L a1 a6 a9 s0 a4 a5 a11 a13 a3) else (F_X9_slanted_284_3 I L a1 a6 a9 s0 a4 a5 a11 a13 a10))
theorem V_X9_slanted_272_3  {I : WI} {L : WL} {a1 : Int32} {a6 : Int32} {a9 : Int32} {a3 : Int32} {a4 : Int32} {a5 : Int32} {a10 : Int32} {a11 : Int32} {a13 : Int32} {s0 : Int32} {P : (Int32 × Int32 × Int32 × Int32) → Prop} {t : Tg} (hb13 : bz a13 = a13) (hk : ∀ x : (Int32 × Int32 × Int32 × Int32), P x → V (zM x_X9_slanted 5 0 0 t) 145 [(0, .ref 33), (1, .int a1), (2, .int (p1 x)), (3, .int (p1 (p2 x))), (4, .int (p1 (p2 (p2 x)))), (5, .int (p2 (p2 (p2 x)))), (6, .int a6), (9, .int (a9 + 1))] [] ly0 I L R0 0 0) (kk : oP P (F_X9_slanted_272_3 I L a1 a6 a9 a3 a4 a5 a10 a11 a13 s0)) : V (zM x_X9_slanted 5 0 0 t) 272 [(0, .ref 33), (1, .int a1), (3, .int a3), (4, .int a4), (5, .int a5), (6, .int a6), (9, .int a9), (10, .int a10), (11, .int a11), (13, .int a13)] [.int s0] ly0 I L R0 0 0 :=
  V_istore_n (lv' := [(2, .int s0), (0, .ref 33), (1, .int a1), (3, .int a3), (4, .int a4), (5, .int a5), (6, .int a6), (9, .int a9), (10, .int a10), (11, .int a11), (13, .int a13)]) (tat ok_X9_slanted_3 (i := 30) (q := 273) rfl rfl) rfl (Nat.le_of_ble_eq_true rfl) rfl <|
    V_iload (tat ok_X9_slanted_3 (i := 31) (q := 275) rfl rfl) 10 rfl <|
    V_if_eq (tat ok_X9_slanted_3 (i := 32) (q := 278) rfl rfl) rfl (fun c11 => V_iload_n (tat ok_X9_slanted_3 (i := 35) (q := 284) rfl rfl) 3 rfl rfl <|
    V_pick [1, 2, 0, 4, 5, 6, 7, 9, 10] rfl (V_X9_slanted_284_3 hb13 hk (jx (P := oP P) kk (if_pos c11)))) (fun c11 => V_iload (tat ok_X9_slanted_3 (i := 33) (q := 280) rfl rfl) 8 rfl <|
    V_goto (tat ok_X9_slanted_3 (i := 34) (q := 283) rfl rfl) rfl <|
    V_pick [1, 2, 0, 4, 5, 6, 7, 9, 10] rfl (V_X9_slanted_284_3 hb13 hk (jx (P := oP P) kk (if_neg c11))))
def F_X9_slanted_259_3 (I : WI) (L : WL) (a1 : Int32) (a6 : Int32) (a9 : Int32) (a2 : Int32) (a3 : Int32) (a4 : Int32) (a5 : Int32) (a10 : Int32) (a11 : Int32) (a12 : Int32) (s0 : Int32) : Option (Int32 × Int32 × Int32 × Int32) :=
  (if s0 = 0 then (F_X9_slanted_272_3 I L a1 a6 a9 a3 a4 a5 a10 a11 s0 a2) else (F_X9_slanted_272_3 I L a1 a6 a9 a3 a4 a5 a10 a11 s0 a12))
theorem V_X9_slanted_259_3  {I : WI} {L : WL} {a1 : Int32} {a6 : Int32} {a9 : Int32} {a2 : Int32} {a3 : Int32} {a4 : Int32} {a5 : Int32} {a10 : Int32} {a11 : Int32} {a12 : Int32} {s0 : Int32} {P : (Int32 × Int32 × Int32 × Int32) → Prop} {t : Tg} (hs0 : bz s0 = s0) (hk : ∀ x : (Int32 × Int32 × Int32 × Int32), P x → V (zM x_X9_slanted 5 0 0 t) 145 [(0, .ref 33), (1, .int a1), (2, .int (p1 x)), (3, .int (p1 (p2 x))), (4, .int (p1 (p2 (p2 x)))), (5, .int (p2 (p2 (p2 x)))), (6, .int a6), (9, .int (a9 + 1))] [] ly0 I L R0 0 0) (kk : oP P (F_X9_slanted_259_3 I L a1 a6 a9 a2 a3 a4 a5 a10 a11 a12 s0)) : V (zM x_X9_slanted 5 0 0 t) 259 [(0, .ref 33), (1, .int a1), (2, .int a2), (3, .int a3), (4, .int a4), (5, .int a5), (6, .int a6), (9, .int a9), (10, .int a10), (11, .int a11), (12, .int a12)] [.int s0] ly0 I L R0 0 0 :=
  V_istore (lv' := [(13, .int s0), (0, .ref 33), (1, .int a1), (2, .int a2), (3, .int a3), (4, .int a4), (5, .int a5), (6, .int a6), (9, .int a9), (10, .int a10), (11, .int a11), (12, .int a12)]) (tat ok_X9_slanted_3 (i := 24) (q := 261) rfl rfl) (Nat.le_of_ble_eq_true rfl) rfl <|
    V_iload (tat ok_X9_slanted_3 (i := 25) (q := 263) rfl rfl) 0 rfl <|
    V_if_eq (tat ok_X9_slanted_3 (i := 26) (q := 266) rfl rfl) rfl (fun c10 => V_iload_n (tat ok_X9_slanted_3 (i := 29) (q := 272) rfl rfl) 3 rfl rfl <|
    V_pick [1, 2, 4, 5, 6, 7, 8, 9, 10, 0] rfl (V_X9_slanted_272_3 hs0 hk (jx (P := oP P) kk (if_pos c10)))) (fun c10 => V_iload (tat ok_X9_slanted_3 (i := 27) (q := 268) rfl rfl) 11 rfl <|
    V_goto (tat ok_X9_slanted_3 (i := 28) (q := 271) rfl rfl) rfl <|
    V_pick [1, 2, 4, 5, 6, 7, 8, 9, 10, 0] rfl (V_X9_slanted_272_3 hs0 hk (jx (P := oP P) kk (if_neg c10))))
def F_X9_slanted_254_3 (I : WI) (L : WL) (a1 : Int32) (a6 : Int32) (a9 : Int32) (a2 : Int32) (a3 : Int32) (a4 : Int32) (a5 : Int32) (a10 : Int32) (a11 : Int32) (a12 : Int32) : Option (Int32 × Int32 × Int32 × Int32) :=
  (F_X9_slanted_259_3 I L a1 a6 a9 a2 a3 a4 a5 a10 a11 a12 1)
theorem V_X9_slanted_254_3  {I : WI} {L : WL} {a1 : Int32} {a6 : Int32} {a9 : Int32} {a2 : Int32} {a3 : Int32} {a4 : Int32} {a5 : Int32} {a10 : Int32} {a11 : Int32} {a12 : Int32} {P : (Int32 × Int32 × Int32 × Int32) → Prop} {t : Tg} (hk : ∀ x : (Int32 × Int32 × Int32 × Int32), P x → V (zM x_X9_slanted 5 0 0 t) 145 [(0, .ref 33), (1, .int a1), (2, .int (p1 x)), (3, .int (p1 (p2 x))), (4, .int (p1 (p2 (p2 x)))), (5, .int (p2 (p2 (p2 x)))), (6, .int a6), (9, .int (a9 + 1))] [] ly0 I L R0 0 0) (kk : oP P (F_X9_slanted_254_3 I L a1 a6 a9 a2 a3 a4 a5 a10 a11 a12)) : V (zM x_X9_slanted 5 0 0 t) 254 [(0, .ref 33), (1, .int a1), (2, .int a2), (3, .int a3), (4, .int a4), (5, .int a5), (6, .int a6), (9, .int a9), (10, .int a10), (11, .int a11), (12, .int a12)] [] ly0 I L R0 0 0 :=
  V_iconst (tat ok_X9_slanted_3 (i := 21) (q := 255) rfl rfl) ic_1 <|
    V_goto (tat ok_X9_slanted_3 (i := 22) (q := 258) rfl rfl) rfl <|
    V_X9_slanted_259_3 rfl hk (jx (P := oP P) kk rfl)
def F_X9_slanted_203_3 (I : WI) (L : WL) (a1 : Int32) (a6 : Int32) (a9 : Int32) (a2 : Int32) (a3 : Int32) (a4 : Int32) (a5 : Int32) (a10 : Int32) (s0 : Int32) : Option (Int32 × Int32 × Int32 × Int32) :=
  (if a2 = (-4) then (F_X9_slanted_254_3 I L a1 a6 a9 a2 a3 a4 a5 a10 s0 (((F_X9_many (Int32.toInt64 a10)) + (F_X9_many (Int32.toInt64 s0))) + (F_X9_many (Int32.toInt64 a6)))) else (if (F_X9_isBefore (((F_X9_many (Int32.toInt64 a10)) + (F_X9_many (Int32.toInt64 s0))) + (F_X9_many (Int32.toInt64 a6))) a10 s0 a6 a2 a3 a4 a5) = 0 then (F_X9_slanted_259_3 I L a1 a6 a9 a2 a3 a4 a5 a10 s0 (((F_X9_many (Int32.toInt64 a10)) + (F_X9_many (Int32.toInt64 s0))) + (F_X9_many (Int32.toInt64 a6))) 0) else (F_X9_slanted_254_3 I L a1 a6 a9 a2 a3 a4 a5 a10 s0 (((F_X9_many (Int32.toInt64 a10)) + (F_X9_many (Int32.toInt64 s0))) + (F_X9_many (Int32.toInt64 a6))))))
theorem V_X9_slanted_203_3  {I : WI} {L : WL} {a1 : Int32} {a6 : Int32} {a9 : Int32} {a2 : Int32} {a3 : Int32} {a4 : Int32} {a5 : Int32} {a10 : Int32} {s0 : Int32} {P : (Int32 × Int32 × Int32 × Int32) → Prop} {t : Tg} (hk : ∀ x : (Int32 × Int32 × Int32 × Int32), P x → V (zM x_X9_slanted 5 0 0 t) 145 [(0, .ref 33), (1, .int a1), (2, .int (p1 x)), (3, .int (p1 (p2 x))), (4, .int (p1 (p2 (p2 x)))), (5, .int (p2 (p2 (p2 x)))), (6, .int a6), (9, .int (a9 + 1))] [] ly0 I L R0 0 0) (kk : oP P (F_X9_slanted_203_3 I L a1 a6 a9 a2 a3 a4 a5 a10 s0)) : V (zM x_X9_slanted 5 0 0 t) 203 [(0, .ref 33), (1, .int a1), (2, .int a2), (3, .int a3), (4, .int a4), (5, .int a5), (6, .int a6), (9, .int a9), (10, .int a10)] [.int s0] ly0 I L R0 0 0 :=
  V_istore (lv' := [(11, .int s0), (0, .ref 33), (1, .int a1), (2, .int a2), (3, .int a3), (4, .int a4), (5, .int a5), (6, .int a6), (9, .int a9), (10, .int a10)]) (tat ok_X9_slanted_2 (i := 34) (q := 205) rfl rfl) (Nat.le_of_ble_eq_true rfl) rfl <|
    V_iload (tat ok_X9_slanted_2 (i := 35) (q := 207) rfl rfl) 9 rfl <|
    V_i2l (tat ok_X9_slanted_2 (i := 36) (q := 208) rfl rfl) <|
    V_cs1 (ct_X9_many I L (Int32.toInt64 a10) ) mo_X9_many (tat ok_X9_slanted_2 (i := 37) (q := 211) rfl rfl) ml_X9_220 ⟨(Nat.le_of_ble_eq_true rfl), (Nat.le_of_ble_eq_true rfl)⟩ ⟨(Nat.le_of_ble_eq_true rfl), (Nat.le_of_ble_eq_true rfl)⟩ (Nat.le_of_ble_eq_true rfl) <|
    V_iload (tat ok_X9_slanted_2 (i := 38) (q := 213) rfl rfl) 0 rfl <|
    V_i2l (tat ok_X9_slanted_2 (i := 39) (q := 214) rfl rfl) <|
    V_cs1 (ct_X9_many I L (Int32.toInt64 s0) ) mo_X9_many (tat ok_X9_slanted_3 (i := 0) (q := 217) rfl rfl) ml_X9_220 ⟨(Nat.le_of_ble_eq_true rfl), (Nat.le_of_ble_eq_true rfl)⟩ ⟨(Nat.le_of_ble_eq_true rfl), (Nat.le_of_ble_eq_true rfl)⟩ (Nat.le_of_ble_eq_true rfl) <|
    V_iadd (tat ok_X9_slanted_3 (i := 1) (q := 218) rfl rfl) <|
    V_iload (tat ok_X9_slanted_3 (i := 2) (q := 220) rfl rfl) 7 rfl <|
    V_i2l (tat ok_X9_slanted_3 (i := 3) (q := 221) rfl rfl) <|
    V_cs1 (ct_X9_many I L (Int32.toInt64 a6) ) mo_X9_many (tat ok_X9_slanted_3 (i := 4) (q := 224) rfl rfl) ml_X9_220 ⟨(Nat.le_of_ble_eq_true rfl), (Nat.le_of_ble_eq_true rfl)⟩ ⟨(Nat.le_of_ble_eq_true rfl), (Nat.le_of_ble_eq_true rfl)⟩ (Nat.le_of_ble_eq_true rfl) <|
    V_iadd (tat ok_X9_slanted_3 (i := 5) (q := 225) rfl rfl) <|
    V_istore (lv' := [(12, .int (((F_X9_many (Int32.toInt64 a10)) + (F_X9_many (Int32.toInt64 s0))) + (F_X9_many (Int32.toInt64 a6)))), (11, .int s0), (0, .ref 33), (1, .int a1), (2, .int a2), (3, .int a3), (4, .int a4), (5, .int a5), (6, .int a6), (9, .int a9), (10, .int a10)]) (tat ok_X9_slanted_3 (i := 6) (q := 227) rfl rfl) (Nat.le_of_ble_eq_true rfl) rfl <|
    V_iload_n (tat ok_X9_slanted_3 (i := 7) (q := 228) rfl rfl) 4 rfl rfl <|
    V_bipush (tat ok_X9_slanted_3 (i := 8) (q := 230) rfl rfl) bp_m4 <|
    V_icmp_eq (tat ok_X9_slanted_3 (i := 9) (q := 233) rfl rfl) rfl (fun c9 => V_pick [2, 3, 4, 5, 6, 7, 8, 9, 10, 1, 0] rfl (V_X9_slanted_254_3  hk (jx (P := oP P) kk (if_pos c9)))) (fun c9 => V_aload_n (tat ok_X9_slanted_3 (i := 10) (q := 234) rfl rfl) 2 rfl rfl <|
    V_iload (tat ok_X9_slanted_3 (i := 11) (q := 236) rfl rfl) 0 rfl <|
    V_iload (tat ok_X9_slanted_3 (i := 12) (q := 238) rfl rfl) 10 rfl <|
    V_iload (tat ok_X9_slanted_3 (i := 13) (q := 240) rfl rfl) 1 rfl <|
    V_iload (tat ok_X9_slanted_3 (i := 14) (q := 242) rfl rfl) 8 rfl <|
    V_iload_n (tat ok_X9_slanted_3 (i := 15) (q := 243) rfl rfl) 4 rfl rfl <|
    V_iload_n (tat ok_X9_slanted_3 (i := 16) (q := 244) rfl rfl) 5 rfl rfl <|
    V_iload (tat ok_X9_slanted_3 (i := 17) (q := 246) rfl rfl) 6 rfl <|
    V_iload (tat ok_X9_slanted_3 (i := 18) (q := 248) rfl rfl) 7 rfl <|
    V_cv8 (ct_X9_isBefore I L (((F_X9_many (Int32.toInt64 a10)) + (F_X9_many (Int32.toInt64 s0))) + (F_X9_many (Int32.toInt64 a6))) a10 s0 a6 a2 a3 a4 a5 ) mo_X9_isBefore (tat ok_X9_slanted_3 (i := 19) (q := 251) rfl rfl) ml_X9_280 rfl ⟨by decide, _, rfl, rfl⟩ ⟨(Nat.le_of_ble_eq_true rfl), (Nat.le_of_ble_eq_true rfl)⟩ ⟨(Nat.le_of_ble_eq_true rfl), (Nat.le_of_ble_eq_true rfl)⟩ (Nat.le_of_ble_eq_true rfl) <|
    V_if_eq (tat ok_X9_slanted_3 (i := 20) (q := 254) rfl rfl) rfl (fun c14 => V_iconst (tat ok_X9_slanted_3 (i := 23) (q := 259) rfl rfl) ic_0 <|
    V_pick [2, 3, 4, 5, 6, 7, 8, 9, 10, 1, 0] rfl (V_X9_slanted_259_3 rfl hk (jx (P := oP P) kk (Eq.trans (if_neg c9) (if_pos c14))))) (fun c14 => V_pick [2, 3, 4, 5, 6, 7, 8, 9, 10, 1, 0] rfl (V_X9_slanted_254_3  hk (jx (P := oP P) kk (Eq.trans (if_neg c9) (if_neg c14))))))
def F_X9_slanted_176_3 (I : WI) (L : WL) (a1 : Int32) (a6 : Int32) (a9 : Int32) (a2 : Int32) (a3 : Int32) (a4 : Int32) (a5 : Int32) (s0 : Int32) : Option (Int32 × Int32 × Int32 × Int32) :=
  (if a9 = 0 then (F_X9_slanted_203_3 I L a1 a6 a9 a2 a3 a4 a5 s0 (I 33 32)) else (F_X9_slanted_203_3 I L a1 a6 a9 a2 a3 a4 a5 s0 ((I 33 32) ^^^ ((1 <<< ((I 33 1) &&& 31)) - 1))))
theorem V_X9_slanted_176_3  {I : WI} {L : WL} {a1 : Int32} {a6 : Int32} {a9 : Int32} {a2 : Int32} {a3 : Int32} {a4 : Int32} {a5 : Int32} {s0 : Int32} {P : (Int32 × Int32 × Int32 × Int32) → Prop} {t : Tg} (hk : ∀ x : (Int32 × Int32 × Int32 × Int32), P x → V (zM x_X9_slanted 5 0 0 t) 145 [(0, .ref 33), (1, .int a1), (2, .int (p1 x)), (3, .int (p1 (p2 x))), (4, .int (p1 (p2 (p2 x)))), (5, .int (p2 (p2 (p2 x)))), (6, .int a6), (9, .int (a9 + 1))] [] ly0 I L R0 0 0) (kk : oP P (F_X9_slanted_176_3 I L a1 a6 a9 a2 a3 a4 a5 s0)) : V (zM x_X9_slanted 5 0 0 t) 176 [(0, .ref 33), (1, .int a1), (2, .int a2), (3, .int a3), (4, .int a4), (5, .int a5), (6, .int a6), (9, .int a9)] [.int s0] ly0 I L R0 0 0 :=
  V_istore (lv' := [(10, .int s0), (0, .ref 33), (1, .int a1), (2, .int a2), (3, .int a3), (4, .int a4), (5, .int a5), (6, .int a6), (9, .int a9)]) (tat ok_X9_slanted_2 (i := 19) (q := 178) rfl rfl) (Nat.le_of_ble_eq_true rfl) rfl <|
    V_iload (tat ok_X9_slanted_2 (i := 20) (q := 180) rfl rfl) 8 rfl <|
    V_if_ne (tat ok_X9_slanted_2 (i := 21) (q := 183) rfl rfl) rfl (fun c8 => V_aload_n (tat ok_X9_slanted_2 (i := 25) (q := 191) rfl rfl) 1 rfl rfl <|
    V_getI (tat ok_X9_slanted_2 (i := 26) (q := 194) rfl rfl) fk_X9_248 rfl <|
    V_iconst (tat ok_X9_slanted_2 (i := 27) (q := 195) rfl rfl) ic_1 <|
    V_aload_n (tat ok_X9_slanted_2 (i := 28) (q := 196) rfl rfl) 1 rfl rfl <|
    V_getI (tat ok_X9_slanted_2 (i := 29) (q := 199) rfl rfl) fk_X9_77 rfl <|
    V_ishl (tat ok_X9_slanted_2 (i := 30) (q := 200) rfl rfl) <|
    V_iconst (tat ok_X9_slanted_2 (i := 31) (q := 201) rfl rfl) ic_1 <|
    V_isub (tat ok_X9_slanted_2 (i := 32) (q := 202) rfl rfl) <|
    V_ixor (tat ok_X9_slanted_2 (i := 33) (q := 203) rfl rfl) <|
    V_pick [1, 2, 3, 4, 5, 6, 7, 8, 0] rfl (V_X9_slanted_203_3  hk (jx (P := oP P) kk (if_neg c8)))) (fun c8 => V_aload_n (tat ok_X9_slanted_2 (i := 22) (q := 184) rfl rfl) 1 rfl rfl <|
    V_getI (tat ok_X9_slanted_2 (i := 23) (q := 187) rfl rfl) fk_X9_248 rfl <|
    V_goto (tat ok_X9_slanted_2 (i := 24) (q := 190) rfl rfl) rfl <|
    V_pick [1, 2, 3, 4, 5, 6, 7, 8, 0] rfl (V_X9_slanted_203_3  hk (jx (P := oP P) kk (if_pos c8))))
def F_X9_slanted_151_3 (I : WI) (L : WL) (a1 : Int32) (a6 : Int32) (a9 : Int32) (a2 : Int32) (a3 : Int32) (a4 : Int32) (a5 : Int32) : Option (Int32 × Int32 × Int32 × Int32) :=
  (if a9 = 0 then (F_X9_slanted_176_3 I L a1 a6 a9 a2 a3 a4 a5 (I 33 31)) else (F_X9_slanted_176_3 I L a1 a6 a9 a2 a3 a4 a5 ((I 33 31) ^^^ ((1 <<< ((I 33 0) &&& 31)) - 1))))
theorem V_X9_slanted_151_3  {I : WI} {L : WL} {a1 : Int32} {a6 : Int32} {a9 : Int32} {a2 : Int32} {a3 : Int32} {a4 : Int32} {a5 : Int32} {P : (Int32 × Int32 × Int32 × Int32) → Prop} {t : Tg} (hk : ∀ x : (Int32 × Int32 × Int32 × Int32), P x → V (zM x_X9_slanted 5 0 0 t) 145 [(0, .ref 33), (1, .int a1), (2, .int (p1 x)), (3, .int (p1 (p2 x))), (4, .int (p1 (p2 (p2 x)))), (5, .int (p2 (p2 (p2 x)))), (6, .int a6), (9, .int (a9 + 1))] [] ly0 I L R0 0 0) (kk : oP P (F_X9_slanted_151_3 I L a1 a6 a9 a2 a3 a4 a5)) : V (zM x_X9_slanted 5 0 0 t) 151 [(0, .ref 33), (1, .int a1), (2, .int a2), (3, .int a3), (4, .int a4), (5, .int a5), (6, .int a6), (9, .int a9)] [] ly0 I L R0 0 0 :=
  V_iload (tat ok_X9_slanted_2 (i := 5) (q := 153) rfl rfl) 7 rfl <|
    V_if_ne (tat ok_X9_slanted_2 (i := 6) (q := 156) rfl rfl) rfl (fun c7 => V_aload_n (tat ok_X9_slanted_2 (i := 10) (q := 164) rfl rfl) 0 rfl rfl <|
    V_getI (tat ok_X9_slanted_2 (i := 11) (q := 167) rfl rfl) fk_X9_245 rfl <|
    V_iconst (tat ok_X9_slanted_2 (i := 12) (q := 168) rfl rfl) ic_1 <|
    V_aload_n (tat ok_X9_slanted_2 (i := 13) (q := 169) rfl rfl) 0 rfl rfl <|
    V_getI (tat ok_X9_slanted_2 (i := 14) (q := 172) rfl rfl) fk_X9_74 rfl <|
    V_ishl (tat ok_X9_slanted_2 (i := 15) (q := 173) rfl rfl) <|
    V_iconst (tat ok_X9_slanted_2 (i := 16) (q := 174) rfl rfl) ic_1 <|
    V_isub (tat ok_X9_slanted_2 (i := 17) (q := 175) rfl rfl) <|
    V_ixor (tat ok_X9_slanted_2 (i := 18) (q := 176) rfl rfl) <|
    V_X9_slanted_176_3  hk (jx (P := oP P) kk (if_neg c7))) (fun c7 => V_aload_n (tat ok_X9_slanted_2 (i := 7) (q := 157) rfl rfl) 0 rfl rfl <|
    V_getI (tat ok_X9_slanted_2 (i := 8) (q := 160) rfl rfl) fk_X9_245 rfl <|
    V_goto (tat ok_X9_slanted_2 (i := 9) (q := 163) rfl rfl) rfl <|
    V_X9_slanted_176_3  hk (jx (P := oP P) kk (if_pos c7)))
def F_X9_slanted_145_1 (I : WI) (L : WL) (a1 : Int32) (a2 : Int32) (a3 : Int32) (a4 : Int32) (a5 : Int32) (a6 : Int32) (a9 : Int32) : Option ((Int32 × Int32 × Int32 × Int32 × WI) ⊕ (Int32 × Int32 × Int32 × Int32 × Int32 × WI)) :=
  (frp0 (fun i x => (F_X9_slanted_151_3 I L a1 a6 i (p1 x) (p1 (p2 x)) (p1 (p2 (p2 x))) (p2 (p2 (p2 x))))) 2 (fu a9 2) a9 (a2, a3, a4, a5)).bind (fun q => (F_X9_slanted_319_1 I L a1 (p1 (p2 q)) (p1 (p2 (p2 q))) (p1 (p2 (p2 (p2 q)))) (p2 (p2 (p2 (p2 q)))) a6))
theorem V_X9_slanted_145_1  {I : WI} {L : WL} {a1 : Int32} {a2 : Int32} {a3 : Int32} {a4 : Int32} {a5 : Int32} {a6 : Int32} {a9 : Int32} {P : ((Int32 × Int32 × Int32 × Int32 × WI) ⊕ (Int32 × Int32 × Int32 × Int32 × Int32 × WI)) → Prop} {t : Tg} (hb9 : bz a9 = a9) (he : ∀ x : (Int32 × Int32 × Int32 × Int32 × WI), P (.inl x) → V (zM x_X9_slanted 5 0 0 t) 325 [(0, .ref 33), (1, .int a1), (2, .int (p1 x)), (3, .int (p1 (p2 x))), (4, .int (p1 (p2 (p2 x)))), (5, .int (p1 (p2 (p2 (p2 x)))))] [] ly0 (p2 (p2 (p2 (p2 x)))) L R0 0 0) (hk : ∀ x : (Int32 × Int32 × Int32 × Int32 × Int32 × WI), P (.inr x) → V (zM x_X9_slanted 5 0 0 t) 52 [(0, .ref 33), (1, .int a1), (2, .int (p1 x)), (3, .int (p1 (p2 x))), (4, .int (p1 (p2 (p2 x)))), (5, .int (p1 (p2 (p2 (p2 x))))), (6, .int (p1 (p2 (p2 (p2 (p2 x))))))] [] ly0 (p2 (p2 (p2 (p2 (p2 x))))) L R0 0 0) (kk : oP P (F_X9_slanted_145_1 I L a1 a2 a3 a4 a5 a6 a9)) : V (zM x_X9_slanted 5 0 0 t) 145 [(0, .ref 33), (1, .int a1), (2, .int a2), (3, .int a3), (4, .int a4), (5, .int a5), (6, .int a6), (9, .int a9)] [] ly0 I L R0 0 0 :=
  V_frp0 (fun i x => (F_X9_slanted_151_3 I L a1 a6 i (p1 x) (p1 (p2 x)) (p1 (p2 (p2 x))) (p2 (p2 (p2 x))))) 2 (fun i x => V (zM x_X9_slanted 5 0 0 t) 145 [(0, .ref 33), (1, .int a1), (2, .int (p1 x)), (3, .int (p1 (p2 x))), (4, .int (p1 (p2 (p2 x)))), (5, .int (p2 (p2 (p2 x)))), (6, .int a6), (9, .int i)] [] ly0 I L R0 0 0) (fun i x => oP P ((F_X9_slanted_319_1 I L a1 (p1 x) (p1 (p2 x)) (p1 (p2 (p2 x))) (p2 (p2 (p2 x))) a6))) (c := a9) (s := (a2, a3, a4, a5)) (fun i x kx kb => V_iload (tat ok_X9_slanted_2 (i := 2) (q := 147) rfl rfl) 7 rfl <|
    V_iconst (tat ok_X9_slanted_2 (i := 3) (q := 148) rfl rfl) ic_2 <|
    V_icmp_ge (tat ok_X9_slanted_2 (i := 4) (q := 151) rfl rfl) rfl (fun c0 => V_pick [0, 1, 2, 3, 4, 5, 6] rfl (V_X9_slanted_319_1  he hk (kx c0))) (fun c0 => V_X9_slanted_151_3 (P := (fun x => (fun i x => V (zM x_X9_slanted 5 0 0 t) 145 [(0, .ref 33), (1, .int a1), (2, .int (p1 x)), (3, .int (p1 (p2 x))), (4, .int (p1 (p2 (p2 x)))), (5, .int (p2 (p2 (p2 x)))), (6, .int a6), (9, .int i)] [] ly0 I L R0 0 0) (i + 1) x))  (fun _ e => e) (kb c0))) (oP_bind (f := fun q => _) kk)
def F_X9_slanted_133_1 (I : WI) (L : WL) (a1 : Int32) (a2 : Int32) (a3 : Int32) (a4 : Int32) (a5 : Int32) (a6 : Int32) (a7 : Int64) : Option ((Int32 × Int32 × Int32 × Int32 × WI) ⊕ (Int32 × Int32 × Int32 × Int32 × Int32 × WI)) :=
  (if (p1 (F_X9_findPlan I a7)) = 0 then (F_X9_slanted_319_1 (p2 (F_X9_findPlan I a7)) L a1 a2 a3 a4 a5 a6) else (F_X9_slanted_145_1 (p2 (F_X9_findPlan I a7)) L a1 a2 a3 a4 a5 a6 0))
theorem V_X9_slanted_133_1  {I : WI} {L : WL} {a1 : Int32} {a2 : Int32} {a3 : Int32} {a4 : Int32} {a5 : Int32} {a6 : Int32} {a7 : Int64} {P : ((Int32 × Int32 × Int32 × Int32 × WI) ⊕ (Int32 × Int32 × Int32 × Int32 × Int32 × WI)) → Prop} {t : Tg} (he : ∀ x : (Int32 × Int32 × Int32 × Int32 × WI), P (.inl x) → V (zM x_X9_slanted 5 0 0 t) 325 [(0, .ref 33), (1, .int a1), (2, .int (p1 x)), (3, .int (p1 (p2 x))), (4, .int (p1 (p2 (p2 x)))), (5, .int (p1 (p2 (p2 (p2 x)))))] [] ly0 (p2 (p2 (p2 (p2 x)))) L R0 0 0) (hk : ∀ x : (Int32 × Int32 × Int32 × Int32 × Int32 × WI), P (.inr x) → V (zM x_X9_slanted 5 0 0 t) 52 [(0, .ref 33), (1, .int a1), (2, .int (p1 x)), (3, .int (p1 (p2 x))), (4, .int (p1 (p2 (p2 x)))), (5, .int (p1 (p2 (p2 (p2 x))))), (6, .int (p1 (p2 (p2 (p2 (p2 x))))))] [] ly0 (p2 (p2 (p2 (p2 (p2 x))))) L R0 0 0) (kk : oP P (F_X9_slanted_133_1 I L a1 a2 a3 a4 a5 a6 a7)) : V (zM x_X9_slanted 5 0 0 t) 133 [(0, .ref 33), (1, .int a1), (2, .int a2), (3, .int a3), (4, .int a4), (5, .int a5), (6, .int a6), (7, .long a7)] [] ly0 I L R0 0 0 :=
  V_aload_n (tat ok_X9_slanted_1 (i := 36) (q := 134) rfl rfl) 0 rfl rfl <|
    V_lload (tat ok_X9_slanted_1 (i := 37) (q := 136) rfl rfl) 7 rfl <|
    V_cv1 (ct_X9_findPlan I L a7 ) mo_X9_findPlan (tat ok_X9_slanted_1 (i := 38) (q := 139) rfl rfl) ml_X9_253 rfl ⟨by decide, _, rfl, rfl⟩ ⟨(Nat.le_of_ble_eq_true rfl), (Nat.le_of_ble_eq_true rfl)⟩ ⟨(Nat.le_of_ble_eq_true rfl), (Nat.le_of_ble_eq_true rfl)⟩ (Nat.le_of_ble_eq_true rfl) <|
    V_if_eq (tat ok_X9_slanted_1 (i := 39) (q := 142) rfl rfl) rfl (fun c6 => V_pick [0, 1, 2, 3, 4, 5, 6] rfl (V_X9_slanted_319_1  he hk (jx (P := oP P) kk (if_pos c6)))) (fun c6 => V_iconst (tat ok_X9_slanted_2 (i := 0) (q := 143) rfl rfl) ic_0 <|
    V_istore (lv' := [(9, .int 0), (0, .ref 33), (1, .int a1), (2, .int a2), (3, .int a3), (4, .int a4), (5, .int a5), (6, .int a6), (7, .long a7)]) (tat ok_X9_slanted_2 (i := 1) (q := 145) rfl rfl) (Nat.le_of_ble_eq_true rfl) rfl <|
    V_pick [1, 2, 3, 4, 5, 6, 7, 0] rfl (V_X9_slanted_145_1 rfl he hk (jx (P := oP P) kk (if_neg c6))))
def F_X9_slanted_84_1 (I : WI) (L : WL) (a1 : Int32) (a2 : Int32) (a3 : Int32) (a4 : Int32) (a5 : Int32) (a6 : Int32) (a7 : Int64) (a9 : Int32) : Option ((Int32 × Int32 × Int32 × Int32 × WI) ⊕ (Int32 × Int32 × Int32 × Int32 × Int32 × WI)) :=
  (frp0 (fun i x => (F_X9_slanted_100_2 I L a1 a2 a3 a4 a5 a6 i x)) (((I 33 0) + (I 33 1)) - 1) (fu a9 (((I 33 0) + (I 33 1)) - 1)) a9 a7).bind (fun q => (F_X9_slanted_133_1 I L a1 a2 a3 a4 a5 a6 (p2 q)))
theorem V_X9_slanted_84_1  {I : WI} {L : WL} {a1 : Int32} {a2 : Int32} {a3 : Int32} {a4 : Int32} {a5 : Int32} {a6 : Int32} {a7 : Int64} {a9 : Int32} {P : ((Int32 × Int32 × Int32 × Int32 × WI) ⊕ (Int32 × Int32 × Int32 × Int32 × Int32 × WI)) → Prop} {t : Tg} (hb9 : bz a9 = a9) (he : ∀ x : (Int32 × Int32 × Int32 × Int32 × WI), P (.inl x) → V (zM x_X9_slanted 5 0 0 t) 325 [(0, .ref 33), (1, .int a1), (2, .int (p1 x)), (3, .int (p1 (p2 x))), (4, .int (p1 (p2 (p2 x)))), (5, .int (p1 (p2 (p2 (p2 x)))))] [] ly0 (p2 (p2 (p2 (p2 x)))) L R0 0 0) (hk : ∀ x : (Int32 × Int32 × Int32 × Int32 × Int32 × WI), P (.inr x) → V (zM x_X9_slanted 5 0 0 t) 52 [(0, .ref 33), (1, .int a1), (2, .int (p1 x)), (3, .int (p1 (p2 x))), (4, .int (p1 (p2 (p2 x)))), (5, .int (p1 (p2 (p2 (p2 x))))), (6, .int (p1 (p2 (p2 (p2 (p2 x))))))] [] ly0 (p2 (p2 (p2 (p2 (p2 x))))) L R0 0 0) (kk : oP P (F_X9_slanted_84_1 I L a1 a2 a3 a4 a5 a6 a7 a9)) : V (zM x_X9_slanted 5 0 0 t) 84 [(0, .ref 33), (1, .int a1), (2, .int a2), (3, .int a3), (4, .int a4), (5, .int a5), (6, .int a6), (7, .long a7), (9, .int a9)] [] ly0 I L R0 0 0 :=
  V_frp0 (fun i x => (F_X9_slanted_100_2 I L a1 a2 a3 a4 a5 a6 i x)) (((I 33 0) + (I 33 1)) - 1) (fun i x => V (zM x_X9_slanted 5 0 0 t) 84 [(0, .ref 33), (1, .int a1), (2, .int a2), (3, .int a3), (4, .int a4), (5, .int a5), (6, .int a6), (7, .long x), (9, .int i)] [] ly0 I L R0 0 0) (fun i x => oP P ((F_X9_slanted_133_1 I L a1 a2 a3 a4 a5 a6 x))) (c := a9) (s := a7) (fun i x kx kb => V_iload (tat ok_X9_slanted_1 (i := 9) (q := 86) rfl rfl) 8 rfl <|
    V_aload_n (tat ok_X9_slanted_1 (i := 10) (q := 87) rfl rfl) 0 rfl rfl <|
    V_getI (tat ok_X9_slanted_1 (i := 11) (q := 90) rfl rfl) fk_X9_74 rfl <|
    V_aload_n (tat ok_X9_slanted_1 (i := 12) (q := 91) rfl rfl) 0 rfl rfl <|
    V_getI (tat ok_X9_slanted_1 (i := 13) (q := 94) rfl rfl) fk_X9_77 rfl <|
    V_iadd (tat ok_X9_slanted_1 (i := 14) (q := 95) rfl rfl) <|
    V_iconst (tat ok_X9_slanted_1 (i := 15) (q := 96) rfl rfl) ic_1 <|
    V_isub (tat ok_X9_slanted_1 (i := 16) (q := 97) rfl rfl) <|
    V_icmp_ge (tat ok_X9_slanted_1 (i := 17) (q := 100) rfl rfl) rfl (fun c0 => V_pick [0, 1, 2, 3, 4, 5, 6, 7] rfl (V_X9_slanted_133_1  he hk (kx c0))) (fun c0 => V_X9_slanted_100_2 (P := (fun x => (fun i x => V (zM x_X9_slanted 5 0 0 t) 84 [(0, .ref 33), (1, .int a1), (2, .int a2), (3, .int a3), (4, .int a4), (5, .int a5), (6, .int a6), (7, .long x), (9, .int i)] [] ly0 I L R0 0 0) (i + 1) x))  (fun _ e => e) (kb c0))) (oP_bind (f := fun q => _) kk)
def F_X9_slanted_52_1 (I : WI) (L : WL) (a1 : Int32) (a2 : Int32) (a3 : Int32) (a4 : Int32) (a5 : Int32) (a6 : Int32) : Option ((Int32 × Int32 × Int32 × Int32 × WI) ⊕ (Int32 × Int32 × Int32 × Int32 × Int32 × WI)) :=
  (if (1 <<< ((((I 33 0) + (I 33 1)) - 1) &&& 31)) ≤ a6 then some (.inl (a2, a3, a4, a5, I)) else (F_X9_slanted_84_1 I L a1 a2 a3 a4 a5 a6 ((L 33 2) ^^^ (L 33 3)) 0))
theorem V_X9_slanted_52_1  {I : WI} {L : WL} {a1 : Int32} {a2 : Int32} {a3 : Int32} {a4 : Int32} {a5 : Int32} {a6 : Int32} {P : ((Int32 × Int32 × Int32 × Int32 × WI) ⊕ (Int32 × Int32 × Int32 × Int32 × Int32 × WI)) → Prop} {t : Tg} (he : ∀ x : (Int32 × Int32 × Int32 × Int32 × WI), P (.inl x) → V (zM x_X9_slanted 5 0 0 t) 325 [(0, .ref 33), (1, .int a1), (2, .int (p1 x)), (3, .int (p1 (p2 x))), (4, .int (p1 (p2 (p2 x)))), (5, .int (p1 (p2 (p2 (p2 x)))))] [] ly0 (p2 (p2 (p2 (p2 x)))) L R0 0 0) (hk : ∀ x : (Int32 × Int32 × Int32 × Int32 × Int32 × WI), P (.inr x) → V (zM x_X9_slanted 5 0 0 t) 52 [(0, .ref 33), (1, .int a1), (2, .int (p1 x)), (3, .int (p1 (p2 x))), (4, .int (p1 (p2 (p2 x)))), (5, .int (p1 (p2 (p2 (p2 x))))), (6, .int (p1 (p2 (p2 (p2 (p2 x))))))] [] ly0 (p2 (p2 (p2 (p2 (p2 x))))) L R0 0 0) (kk : oP P (F_X9_slanted_52_1 I L a1 a2 a3 a4 a5 a6)) : V (zM x_X9_slanted 5 0 0 t) 52 [(0, .ref 33), (1, .int a1), (2, .int a2), (3, .int a3), (4, .int a4), (5, .int a5), (6, .int a6)] [] ly0 I L R0 0 0 :=
  V_iload (tat ok_X9_slanted_0 (i := 30) (q := 54) rfl rfl) 6 rfl <|
    V_iconst (tat ok_X9_slanted_0 (i := 31) (q := 55) rfl rfl) ic_1 <|
    V_aload_n (tat ok_X9_slanted_0 (i := 32) (q := 56) rfl rfl) 0 rfl rfl <|
    V_getI (tat ok_X9_slanted_0 (i := 33) (q := 59) rfl rfl) fk_X9_74 rfl <|
    V_aload_n (tat ok_X9_slanted_0 (i := 34) (q := 60) rfl rfl) 0 rfl rfl <|
    V_getI (tat ok_X9_slanted_0 (i := 35) (q := 63) rfl rfl) fk_X9_77 rfl <|
    V_iadd (tat ok_X9_slanted_0 (i := 36) (q := 64) rfl rfl) <|
    V_iconst (tat ok_X9_slanted_0 (i := 37) (q := 65) rfl rfl) ic_1 <|
    V_isub (tat ok_X9_slanted_0 (i := 38) (q := 66) rfl rfl) <|
    V_ishl (tat ok_X9_slanted_0 (i := 39) (q := 67) rfl rfl) <|
    V_icmp_ge (tat ok_X9_slanted_1 (i := 0) (q := 70) rfl rfl) rfl (fun c4 => V_pick [0, 1, 2, 3, 4, 5] rfl (he (a2, a3, a4, a5, I) (jx (P := oP P) kk (if_pos c4)))) (fun c4 => V_aload_n (tat ok_X9_slanted_1 (i := 1) (q := 71) rfl rfl) 0 rfl rfl <|
    V_getL (tat ok_X9_slanted_1 (i := 2) (q := 74) rfl rfl) fk_X9_80 rfl <|
    V_aload_n (tat ok_X9_slanted_1 (i := 3) (q := 75) rfl rfl) 0 rfl rfl <|
    V_getL (tat ok_X9_slanted_1 (i := 4) (q := 78) rfl rfl) fk_X9_83 rfl <|
    V_lxor (tat ok_X9_slanted_1 (i := 5) (q := 79) rfl rfl) <|
    V_lstore (lv' := [(7, .long ((L 33 2) ^^^ (L 33 3))), (0, .ref 33), (1, .int a1), (2, .int a2), (3, .int a3), (4, .int a4), (5, .int a5), (6, .int a6)]) (tat ok_X9_slanted_1 (i := 6) (q := 81) rfl rfl) (Nat.le_of_ble_eq_true rfl) rfl <|
    V_iconst (tat ok_X9_slanted_1 (i := 7) (q := 82) rfl rfl) ic_0 <|
    V_istore (lv' := [(9, .int 0), (7, .long ((L 33 2) ^^^ (L 33 3))), (0, .ref 33), (1, .int a1), (2, .int a2), (3, .int a3), (4, .int a4), (5, .int a5), (6, .int a6)]) (tat ok_X9_slanted_1 (i := 8) (q := 84) rfl rfl) (Nat.le_of_ble_eq_true rfl) rfl <|
    V_pick [2, 3, 4, 5, 6, 7, 8, 1, 0] rfl (V_X9_slanted_84_1 rfl he hk (jx (P := oP P) kk (if_neg c4))))
def F_X9_slanted_365 (I : WI) (L : WL) (a1 : Int32) (s0 : Int32) : Option (Int32 × WI) :=
  some (s0, I)
theorem V_X9_slanted_365  {I : WI} {L : WL} {a1 : Int32} {s0 : Int32} {P : (Int32 × WI) → Prop} {t : Tg} (hr : ∀ v, P v → t = (some (.int (p1 v)), ly0, (p2 v), L, R0)) (kk : oP P (F_X9_slanted_365 I L a1 s0)) : V (zM x_X9_slanted 5 0 0 t) 365 [(0, .ref 33), (1, .int a1)] [.int s0] ly0 I L R0 0 0 :=
  V_iret (tat ok_X9_slanted_4 (i := 33) (q := 366) rfl rfl) _ rfl (nar_int _) (hr (s0, I) (jx (P := oP P) kk rfl)) ⟨(Nat.le_of_ble_eq_true rfl), (Nat.le_of_ble_eq_true rfl)⟩
def F_X9_slanted_325 (I : WI) (L : WL) (a1 : Int32) (a2 : Int32) (a3 : Int32) (a4 : Int32) (a5 : Int32) : Option (Int32 × WI) :=
  (if a2 = (-4) then (F_X9_slanted_365 I L a1 (-4)) else (if a1 = 0 then (F_X9_slanted_365 I L a1 a2) else (if a1 = 1 then (F_X9_slanted_365 I L a1 a3) else (if a1 = 2 then (F_X9_slanted_365 I L a1 a4) else (F_X9_slanted_365 I L a1 a5)))))
theorem V_X9_slanted_325  {I : WI} {L : WL} {a1 : Int32} {a2 : Int32} {a3 : Int32} {a4 : Int32} {a5 : Int32} {P : (Int32 × WI) → Prop} {t : Tg} (hr : ∀ v, P v → t = (some (.int (p1 v)), ly0, (p2 v), L, R0)) (kk : oP P (F_X9_slanted_325 I L a1 a2 a3 a4 a5)) : V (zM x_X9_slanted 5 0 0 t) 325 [(0, .ref 33), (1, .int a1), (2, .int a2), (3, .int a3), (4, .int a4), (5, .int a5)] [] ly0 I L R0 0 0 :=
  V_iload_n (tat ok_X9_slanted_4 (i := 13) (q := 326) rfl rfl) 2 rfl rfl <|
    V_bipush (tat ok_X9_slanted_4 (i := 14) (q := 328) rfl rfl) bp_m4 <|
    V_icmp_ne (tat ok_X9_slanted_4 (i := 15) (q := 331) rfl rfl) rfl (fun c15 => V_iload_n (tat ok_X9_slanted_4 (i := 18) (q := 337) rfl rfl) 1 rfl rfl <|
    V_if_ne (tat ok_X9_slanted_4 (i := 19) (q := 340) rfl rfl) rfl (fun c16 => V_iload_n (tat ok_X9_slanted_4 (i := 22) (q := 345) rfl rfl) 1 rfl rfl <|
    V_iconst (tat ok_X9_slanted_4 (i := 23) (q := 346) rfl rfl) ic_1 <|
    V_icmp_ne (tat ok_X9_slanted_4 (i := 24) (q := 349) rfl rfl) rfl (fun c17 => V_iload_n (tat ok_X9_slanted_4 (i := 27) (q := 354) rfl rfl) 1 rfl rfl <|
    V_iconst (tat ok_X9_slanted_4 (i := 28) (q := 355) rfl rfl) ic_2 <|
    V_icmp_ne (tat ok_X9_slanted_4 (i := 29) (q := 358) rfl rfl) rfl (fun c18 => V_iload (tat ok_X9_slanted_4 (i := 32) (q := 365) rfl rfl) 5 rfl <|
    V_pick [0, 1] rfl (V_X9_slanted_365  hr (jx (P := oP P) kk (Eq.trans (if_neg c15) (Eq.trans (if_neg c16) (Eq.trans (if_neg c17) (if_neg c18))))))) (fun c18 => V_iload (tat ok_X9_slanted_4 (i := 30) (q := 360) rfl rfl) 4 rfl <|
    V_goto (tat ok_X9_slanted_4 (i := 31) (q := 363) rfl rfl) rfl <|
    V_pick [0, 1] rfl (V_X9_slanted_365  hr (jx (P := oP P) kk (Eq.trans (if_neg c15) (Eq.trans (if_neg c16) (Eq.trans (if_neg c17) (if_pos c18)))))))) (fun c17 => V_iload_n (tat ok_X9_slanted_4 (i := 25) (q := 350) rfl rfl) 3 rfl rfl <|
    V_goto (tat ok_X9_slanted_4 (i := 26) (q := 353) rfl rfl) rfl <|
    V_pick [0, 1] rfl (V_X9_slanted_365  hr (jx (P := oP P) kk (Eq.trans (if_neg c15) (Eq.trans (if_neg c16) (if_pos c17))))))) (fun c16 => V_iload_n (tat ok_X9_slanted_4 (i := 20) (q := 341) rfl rfl) 2 rfl rfl <|
    V_goto (tat ok_X9_slanted_4 (i := 21) (q := 344) rfl rfl) rfl <|
    V_pick [0, 1] rfl (V_X9_slanted_365  hr (jx (P := oP P) kk (Eq.trans (if_neg c15) (if_pos c16)))))) (fun c15 => V_bipush (tat ok_X9_slanted_4 (i := 16) (q := 333) rfl rfl) bp_m4 <|
    V_goto (tat ok_X9_slanted_4 (i := 17) (q := 336) rfl rfl) rfl <|
    V_pick [0, 1] rfl (V_X9_slanted_365  hr (jx (P := oP P) kk (if_pos c15))))
def F_X9_slanted_52 (I : WI) (L : WL) (a1 : Int32) (a2 : Int32) (a3 : Int32) (a4 : Int32) (a5 : Int32) (a6 : Int32) : Option (Int32 × WI) :=
  (lpp (fun x => (F_X9_slanted_52_1 (p2 (p2 (p2 (p2 (p2 x))))) L a1 (p1 x) (p1 (p2 x)) (p1 (p2 (p2 x))) (p1 (p2 (p2 (p2 x)))) (p1 (p2 (p2 (p2 (p2 x))))))) 4294967296 (a2, a3, a4, a5, a6, I)).bind (fun q => (F_X9_slanted_325 (p2 (p2 (p2 (p2 q)))) L a1 (p1 q) (p1 (p2 q)) (p1 (p2 (p2 q))) (p1 (p2 (p2 (p2 q))))))
theorem V_X9_slanted_52  {I : WI} {L : WL} {a1 : Int32} {a2 : Int32} {a3 : Int32} {a4 : Int32} {a5 : Int32} {a6 : Int32} {P : (Int32 × WI) → Prop} {t : Tg} (hb3 : bz a3 = a3) (hb4 : bz a4 = a4) (hb5 : bz a5 = a5) (hb6 : bz a6 = a6) (hr : ∀ v, P v → t = (some (.int (p1 v)), ly0, (p2 v), L, R0)) (kk : oP P (F_X9_slanted_52 I L a1 a2 a3 a4 a5 a6)) : V (zM x_X9_slanted 5 0 0 t) 52 [(0, .ref 33), (1, .int a1), (2, .int a2), (3, .int a3), (4, .int a4), (5, .int a5), (6, .int a6)] [] ly0 I L R0 0 0 :=
  V_lpp (fun x => (F_X9_slanted_52_1 (p2 (p2 (p2 (p2 (p2 x))))) L a1 (p1 x) (p1 (p2 x)) (p1 (p2 (p2 x))) (p1 (p2 (p2 (p2 x)))) (p1 (p2 (p2 (p2 (p2 x))))))) (fun x => V (zM x_X9_slanted 5 0 0 t) 52 [(0, .ref 33), (1, .int a1), (2, .int (p1 x)), (3, .int (p1 (p2 x))), (4, .int (p1 (p2 (p2 x)))), (5, .int (p1 (p2 (p2 (p2 x))))), (6, .int (p1 (p2 (p2 (p2 (p2 x))))))] [] ly0 (p2 (p2 (p2 (p2 (p2 x))))) L R0 0 0) (fun x => oP P ((F_X9_slanted_325 (p2 (p2 (p2 (p2 x)))) L a1 (p1 x) (p1 (p2 x)) (p1 (p2 (p2 x))) (p1 (p2 (p2 (p2 x))))))) (s := (a2, a3, a4, a5, a6, I)) (fun x e0 => V_X9_slanted_52_1 (P := Sum.elim (fun x => oP P ((F_X9_slanted_325 (p2 (p2 (p2 (p2 x)))) L a1 (p1 x) (p1 (p2 x)) (p1 (p2 (p2 x))) (p1 (p2 (p2 (p2 x))))))) (fun x => V (zM x_X9_slanted 5 0 0 t) 52 [(0, .ref 33), (1, .int a1), (2, .int (p1 x)), (3, .int (p1 (p2 x))), (4, .int (p1 (p2 (p2 x)))), (5, .int (p1 (p2 (p2 (p2 x))))), (6, .int (p1 (p2 (p2 (p2 (p2 x))))))] [] ly0 (p2 (p2 (p2 (p2 (p2 x))))) L R0 0 0))  (fun x e => V_X9_slanted_325  hr e) (fun _ e => e) e0) (oP_bind (f := fun q => _) kk)
def F_X9_slanted (I : WI) (L : WL) (a1 : Int32) : Option (Int32 × WI) :=
  (if (F_X9_in (Int32.toInt64 a1) 0 3) = 0 then some ((-1), I) else (if (bz (I 33 4)) = 0 then (F_X9_slanted_35 I L a1) else (if ((I 33 0) + (I 33 1)) ≤ 10 then (F_X9_slanted_52 I L a1 (-4) 0 0 0 0) else (F_X9_slanted_35 I L a1))))
theorem V_X9_slanted  {I : WI} {L : WL} {a1 : Int32}  {P : (Int32 × WI) → Prop} {t : Tg} (hr : ∀ v, P v → t = (some (.int (p1 v)), ly0, (p2 v), L, R0)) (kk : oP P (F_X9_slanted I L a1)) : V (zM x_X9_slanted 5 0 0 t) 0 [(0, .ref 33), (1, .int a1)] [] ly0 I L R0 0 0 :=
  V_iload_n (tat ok_X9_slanted_0 (i := 0) (q := 1) rfl rfl) 1 rfl rfl <|
    V_i2l (tat ok_X9_slanted_0 (i := 1) (q := 2) rfl rfl) <|
    V_lconst (v := 0) (tat ok_X9_slanted_0 (i := 2) (q := 3) rfl rfl) rfl <|
    V_ldc2 (tat ok_X9_slanted_0 (i := 3) (q := 6) rfl rfl) (gw_in kl_X9_251 rfl) <|
    V_cs3 (ct_X9_in I L (Int32.toInt64 a1) 0 3 ) mo_X9_in (tat ok_X9_slanted_0 (i := 4) (q := 9) rfl rfl) ml_X9_97 ⟨(Nat.le_of_ble_eq_true rfl), (Nat.le_of_ble_eq_true rfl)⟩ ⟨(Nat.le_of_ble_eq_true rfl), (Nat.le_of_ble_eq_true rfl)⟩ (Nat.le_of_ble_eq_true rfl) <|
    V_if_ne (tat ok_X9_slanted_0 (i := 5) (q := 12) rfl rfl) rfl (fun c1 => V_aload_n (tat ok_X9_slanted_0 (i := 8) (q := 15) rfl rfl) 0 rfl rfl <|
    V_getZ (tat ok_X9_slanted_0 (i := 9) (q := 18) rfl rfl) fk_X9_86 rfl <|
    V_if_eq (tat ok_X9_slanted_0 (i := 10) (q := 21) rfl rfl) rfl (fun c2 => V_X9_slanted_35  hr (jx (P := oP P) kk (Eq.trans (if_neg c1) (if_pos c2)))) (fun c2 => V_aload_n (tat ok_X9_slanted_0 (i := 11) (q := 22) rfl rfl) 0 rfl rfl <|
    V_getI (tat ok_X9_slanted_0 (i := 12) (q := 25) rfl rfl) fk_X9_74 rfl <|
    V_aload_n (tat ok_X9_slanted_0 (i := 13) (q := 26) rfl rfl) 0 rfl rfl <|
    V_getI (tat ok_X9_slanted_0 (i := 14) (q := 29) rfl rfl) fk_X9_77 rfl <|
    V_iadd (tat ok_X9_slanted_0 (i := 15) (q := 30) rfl rfl) <|
    V_bipush (tat ok_X9_slanted_0 (i := 16) (q := 32) rfl rfl) bp_10 <|
    V_icmp_le (tat ok_X9_slanted_0 (i := 17) (q := 35) rfl rfl) rfl (fun c3 => V_bipush (tat ok_X9_slanted_0 (i := 20) (q := 40) rfl rfl) bp_m4 <|
    V_istore_n (lv' := [(2, .int (-4)), (0, .ref 33), (1, .int a1)]) (tat ok_X9_slanted_0 (i := 21) (q := 41) rfl rfl) rfl (Nat.le_of_ble_eq_true rfl) rfl <|
    V_iconst (tat ok_X9_slanted_0 (i := 22) (q := 42) rfl rfl) ic_0 <|
    V_istore_n (lv' := [(3, .int 0), (2, .int (-4)), (0, .ref 33), (1, .int a1)]) (tat ok_X9_slanted_0 (i := 23) (q := 43) rfl rfl) rfl (Nat.le_of_ble_eq_true rfl) rfl <|
    V_iconst (tat ok_X9_slanted_0 (i := 24) (q := 44) rfl rfl) ic_0 <|
    V_istore (lv' := [(4, .int 0), (3, .int 0), (2, .int (-4)), (0, .ref 33), (1, .int a1)]) (tat ok_X9_slanted_0 (i := 25) (q := 46) rfl rfl) (Nat.le_of_ble_eq_true rfl) rfl <|
    V_iconst (tat ok_X9_slanted_0 (i := 26) (q := 47) rfl rfl) ic_0 <|
    V_istore (lv' := [(5, .int 0), (4, .int 0), (3, .int 0), (2, .int (-4)), (0, .ref 33), (1, .int a1)]) (tat ok_X9_slanted_0 (i := 27) (q := 49) rfl rfl) (Nat.le_of_ble_eq_true rfl) rfl <|
    V_iconst (tat ok_X9_slanted_0 (i := 28) (q := 50) rfl rfl) ic_0 <|
    V_istore (lv' := [(6, .int 0), (5, .int 0), (4, .int 0), (3, .int 0), (2, .int (-4)), (0, .ref 33), (1, .int a1)]) (tat ok_X9_slanted_0 (i := 29) (q := 52) rfl rfl) (Nat.le_of_ble_eq_true rfl) rfl <|
    V_pick [5, 6, 4, 3, 2, 1, 0] rfl (V_X9_slanted_52 rfl rfl rfl rfl hr (jx (P := oP P) kk (Eq.trans (if_neg c1) (Eq.trans (if_neg c2) (if_pos c3)))))) (fun c3 => V_X9_slanted_35  hr (jx (P := oP P) kk (Eq.trans (if_neg c1) (Eq.trans (if_neg c2) (if_neg c3))))))) (fun c1 => V_iconst (tat ok_X9_slanted_0 (i := 6) (q := 13) rfl rfl) ic_m1 <|
    V_iret (tat ok_X9_slanted_0 (i := 7) (q := 14) rfl rfl) _ rfl (nar_int _) (hr ((-1), I) (jx (P := oP P) kk (if_pos c1))) ⟨(Nat.le_of_ble_eq_true rfl), (Nat.le_of_ble_eq_true rfl)⟩)
theorem ct_X9_slanted  (I : WI) (L : WL) (a1 : Int32)  {v : (Int32 × WI)} (h : (F_X9_slanted I L a1) = some v) : Ct x_X9_slanted 5 [.ref 33, .int a1] ly0 I L R0 0 0 (some (.int (p1 v)), ly0, (p2 v), L, R0) :=
  Ct_of_V mo_X9_slanted.1 (Nat.le_of_ble_eq_true rfl) (V_X9_slanted (P := fun x => x = v)  (fun _ e => by rw [e]) (by rw [h]; exact rfl))
def F_X9_isNew_54_1 (L : WL) (a1 : Int64) (a3 : Int64) (a5 : Int32) : Option (((Int32 × WL) ⊕ Unit) ⊕ (Int64 × Int32)) :=
  some (.inr (a3, (a5 + (-1))))
theorem V_X9_isNew_54_1  {I : WI} {L : WL} {a1 : Int64} {a3 : Int64} {a5 : Int32} {P : (((Int32 × WL) ⊕ Unit) ⊕ (Int64 × Int32)) → Prop} {t : Tg} (hr : ∀ v, P (.inl (.inl v)) → t = (some (.int (p1 v)), ly0, I, (p2 v), R0)) (he : ∀ x : Unit, P (.inl (.inr x)) → V (zM x_X9_isNew 1 0 0 t) 60 [(0, .ref 33), (1, .long a1)] [] ly0 I L R0 0 0) (hk : ∀ x : (Int64 × Int32), P (.inr x) → V (zM x_X9_isNew 1 0 0 t) 6 [(0, .ref 33), (1, .long a1), (3, .long (p1 x)), (5, .int (p2 x))] [] ly0 I L R0 0 0) (kk : oP P (F_X9_isNew_54_1 L a1 a3 a5)) : V (zM x_X9_isNew 1 0 0 t) 54 [(0, .ref 33), (1, .long a1), (3, .long a3), (5, .int a5)] [] ly0 I L R0 0 0 :=
  V_iinc (v := (a5 + (-1))) (lv' := [(5, .int (a5 + (-1))), (0, .ref 33), (1, .long a1), (3, .long a3)]) (tat ok_X9_isNew_0 (i := 35) (q := 57) rfl rfl) 3 rfl (ia ic_m1) (Nat.le_of_ble_eq_true rfl) rfl <|
    V_goto (tat ok_X9_isNew_0 (i := 36) (q := 60) rfl rfl) rfl <|
    V_pick [1, 2, 3, 0] rfl (hk (a3, (a5 + (-1))) (jx (P := oP P) kk rfl))
def F_X9_isNew_6_1 (L : WL) (a1 : Int64) (a3 : Int64) (a5 : Int32) : Option (((Int32 × WL) ⊕ Unit) ⊕ (Int64 × Int32)) :=
  (if a5 < 0 then some (.inl (.inr ())) else (if (lg_cmp ((lsr a3 a5) &&& 1) 1) = 0 then (if a5 < 0 ∨ 64 ≤ Int32.toNatClampNeg a5 then none else (if (lg_cmp (L 40 (Int32.toNatClampNeg a5)) 0) = 0 then (if a5 < 0 ∨ 64 ≤ Int32.toNatClampNeg a5 then none else some (.inl (.inl (1, (u2 L 40 (Int32.toNatClampNeg a5) a3))))) else (if a5 < 0 ∨ 64 ≤ Int32.toNatClampNeg a5 then none else (F_X9_isNew_54_1 L a1 (a3 ^^^ (L 40 (Int32.toNatClampNeg a5))) a5)))) else (F_X9_isNew_54_1 L a1 a3 a5)))
theorem V_X9_isNew_6_1  {I : WI} {L : WL} {a1 : Int64} {a3 : Int64} {a5 : Int32} {P : (((Int32 × WL) ⊕ Unit) ⊕ (Int64 × Int32)) → Prop} {t : Tg} (hr : ∀ v, P (.inl (.inl v)) → t = (some (.int (p1 v)), ly0, I, (p2 v), R0)) (he : ∀ x : Unit, P (.inl (.inr x)) → V (zM x_X9_isNew 1 0 0 t) 60 [(0, .ref 33), (1, .long a1)] [] ly0 I L R0 0 0) (hk : ∀ x : (Int64 × Int32), P (.inr x) → V (zM x_X9_isNew 1 0 0 t) 6 [(0, .ref 33), (1, .long a1), (3, .long (p1 x)), (5, .int (p2 x))] [] ly0 I L R0 0 0) (kk : oP P (F_X9_isNew_6_1 L a1 a3 a5)) : V (zM x_X9_isNew 1 0 0 t) 6 [(0, .ref 33), (1, .long a1), (3, .long a3), (5, .int a5)] [] ly0 I L R0 0 0 :=
  V_iload (tat ok_X9_isNew_0 (i := 4) (q := 8) rfl rfl) 3 rfl <|
    V_if_lt (tat ok_X9_isNew_0 (i := 5) (q := 11) rfl rfl) rfl (fun c1 => V_pick [0, 1] rfl (he () (jx (P := oP P) kk (if_pos c1)))) (fun c1 => V_lload_n (tat ok_X9_isNew_0 (i := 6) (q := 12) rfl rfl) 2 rfl rfl <|
    V_iload (tat ok_X9_isNew_0 (i := 7) (q := 14) rfl rfl) 3 rfl <|
    V_lshr (tat ok_X9_isNew_0 (i := 8) (q := 15) rfl rfl) <|
    V_lconst (v := 1) (tat ok_X9_isNew_0 (i := 9) (q := 16) rfl rfl) rfl <|
    V_land (tat ok_X9_isNew_0 (i := 10) (q := 17) rfl rfl) <|
    V_lconst (v := 1) (tat ok_X9_isNew_0 (i := 11) (q := 18) rfl rfl) rfl <|
    V_lcmp (tat ok_X9_isNew_0 (i := 12) (q := 19) rfl rfl) <|
    V_if_ne (tat ok_X9_isNew_0 (i := 13) (q := 22) rfl rfl) rfl (fun c2 => V_X9_isNew_54_1  hr he hk (jx (P := oP P) kk (Eq.trans (if_neg c1) (if_neg c2)))) (fun c2 => V_aload_n (tat ok_X9_isNew_0 (i := 14) (q := 23) rfl rfl) 0 rfl rfl <|
    V_getR (tat ok_X9_isNew_0 (i := 15) (q := 26) rfl rfl) fk_X9_29 rfl rfl <|
    V_iload (tat ok_X9_isNew_0 (i := 16) (q := 28) rfl rfl) 3 rfl <|
    (if c3 : a5 < 0 ∨ 64 ≤ Int32.toNatClampNeg a5 then ((jx (P := oP P) kk (Eq.trans (if_neg c1) (Eq.trans (if_pos c2) (if_pos c3))))).elim else V_lald (tat ok_X9_isNew_0 (i := 17) (q := 29) rfl rfl) rfl c3 <|
    V_lconst (v := 0) (tat ok_X9_isNew_0 (i := 18) (q := 30) rfl rfl) rfl <|
    V_lcmp (tat ok_X9_isNew_0 (i := 19) (q := 31) rfl rfl) <|
    V_if_ne (tat ok_X9_isNew_0 (i := 20) (q := 34) rfl rfl) rfl (fun c4 => V_lload_n (tat ok_X9_isNew_0 (i := 28) (q := 45) rfl rfl) 2 rfl rfl <|
    V_aload_n (tat ok_X9_isNew_0 (i := 29) (q := 46) rfl rfl) 0 rfl rfl <|
    V_getR (tat ok_X9_isNew_0 (i := 30) (q := 49) rfl rfl) fk_X9_29 rfl rfl <|
    V_iload (tat ok_X9_isNew_0 (i := 31) (q := 51) rfl rfl) 3 rfl <|
    (if c6 : a5 < 0 ∨ 64 ≤ Int32.toNatClampNeg a5 then ((jx (P := oP P) kk (Eq.trans (if_neg c1) (Eq.trans (if_pos c2) (Eq.trans (if_neg c3) (Eq.trans (if_neg c4) (if_pos c6))))))).elim else V_lald (tat ok_X9_isNew_0 (i := 32) (q := 52) rfl rfl) rfl c6 <|
    V_lxor (tat ok_X9_isNew_0 (i := 33) (q := 53) rfl rfl) <|
    V_lstore_n (lv' := [(3, .long (a3 ^^^ (L 40 (Int32.toNatClampNeg a5)))), (0, .ref 33), (1, .long a1), (5, .int a5)]) (tat ok_X9_isNew_0 (i := 34) (q := 54) rfl rfl) rfl (Nat.le_of_ble_eq_true rfl) rfl <|
    V_pick [1, 2, 0, 3] rfl (V_X9_isNew_54_1  hr he hk (jx (P := oP P) kk (Eq.trans (if_neg c1) (Eq.trans (if_pos c2) (Eq.trans (if_neg c3) (Eq.trans (if_neg c4) (if_neg c6))))))))) (fun c4 => V_aload_n (tat ok_X9_isNew_0 (i := 21) (q := 35) rfl rfl) 0 rfl rfl <|
    V_getR (tat ok_X9_isNew_0 (i := 22) (q := 38) rfl rfl) fk_X9_29 rfl rfl <|
    V_iload (tat ok_X9_isNew_0 (i := 23) (q := 40) rfl rfl) 3 rfl <|
    V_lload_n (tat ok_X9_isNew_0 (i := 24) (q := 41) rfl rfl) 2 rfl rfl <|
    (if c5 : a5 < 0 ∨ 64 ≤ Int32.toNatClampNeg a5 then ((jx (P := oP P) kk (Eq.trans (if_neg c1) (Eq.trans (if_pos c2) (Eq.trans (if_neg c3) (Eq.trans (if_pos c4) (if_pos c5))))))).elim else V_last (tat ok_X9_isNew_0 (i := 25) (q := 42) rfl rfl) rfl c5 <|
    V_iconst (tat ok_X9_isNew_0 (i := 26) (q := 43) rfl rfl) ic_1 <|
    V_iret (tat ok_X9_isNew_0 (i := 27) (q := 44) rfl rfl) _ rfl rfl (hr (1, (u2 L 40 (Int32.toNatClampNeg a5) a3)) (jx (P := oP P) kk (Eq.trans (if_neg c1) (Eq.trans (if_pos c2) (Eq.trans (if_neg c3) (Eq.trans (if_pos c4) (if_neg c5))))))) ⟨(Nat.le_of_ble_eq_true rfl), (Nat.le_of_ble_eq_true rfl)⟩)))))
