def F_X9_findName_46_1 (I : WI) (L : WL) (a1 : Int64) (a3 : Int32) (a4 : Int32) (a5 : Int32) (a6 : Int32) (s0 : Int32) : (WI × WL) :=
  (if s0 < a6 then (F_X9_findName_116_1 I L a1 a3 a4 a5) else (if (I 33 40) = (-4) then (F_X9_findName_92_1 I L a1 a3 a4 a5 a6 s0 (F_X9_formOf (F_X9_rotated a1 a3 a4 a5) a6 s0)) else (if 0 ≤ (lg_cmp (F_X9_formOf (F_X9_rotated a1 a3 a4 a5) a6 s0) (L 33 39)) then (F_X9_findName_116_1 I L a1 a3 a4 a5) else (F_X9_findName_92_1 I L a1 a3 a4 a5 a6 s0 (F_X9_formOf (F_X9_rotated a1 a3 a4 a5) a6 s0)))))
theorem V_X9_findName_46_1  {I : WI} {L : WL} {a1 : Int64} {a3 : Int32} {a4 : Int32} {a5 : Int32} {a6 : Int32} {s0 : Int32} {P : (WI × WL) → Prop} {t : Tg} (hk : ∀ x : (WI × WL), P x → V (zM x_X9_findName 4 0 0 t) 9 [(0, .ref 33), (1, .long a1), (3, .int a3), (4, .int a4), (5, .int (a5 + 1))] [] ly0 (p1 x) (p2 x) R0 0 0) (kk : P (F_X9_findName_46_1 I L a1 a3 a4 a5 a6 s0)) : V (zM x_X9_findName 4 0 0 t) 46 [(0, .ref 33), (1, .long a1), (3, .int a3), (4, .int a4), (5, .int a5), (6, .int a6)] [.int s0] ly0 I L R0 0 0 :=
  V_istore (lv' := [(7, .int s0), (0, .ref 33), (1, .long a1), (3, .int a3), (4, .int a4), (5, .int a5), (6, .int a6)]) (tat ok_X9_findName_0 (i := 25) (q := 48) rfl rfl) (Nat.le_of_ble_eq_true rfl) rfl <|
    V_lload_n (tat ok_X9_findName_0 (i := 26) (q := 49) rfl rfl) 2 rfl rfl <|
    V_iload_n (tat ok_X9_findName_0 (i := 27) (q := 50) rfl rfl) 3 rfl rfl <|
    V_iload (tat ok_X9_findName_0 (i := 28) (q := 52) rfl rfl) 4 rfl <|
    V_iload (tat ok_X9_findName_0 (i := 29) (q := 54) rfl rfl) 5 rfl <|
    V_cs4 (ct_X9_rotated I L a1 a3 a4 a5 ) mo_X9_rotated (tat ok_X9_findName_0 (i := 30) (q := 57) rfl rfl) ml_X9_310 ⟨(Nat.le_of_ble_eq_true rfl), (Nat.le_of_ble_eq_true rfl)⟩ ⟨(Nat.le_of_ble_eq_true rfl), (Nat.le_of_ble_eq_true rfl)⟩ (Nat.le_of_ble_eq_true rfl) <|
    V_iload (tat ok_X9_findName_0 (i := 31) (q := 59) rfl rfl) 6 rfl <|
    V_iload (tat ok_X9_findName_0 (i := 32) (q := 61) rfl rfl) 0 rfl <|
    V_cs3 (ct_X9_formOf I L (F_X9_rotated a1 a3 a4 a5) a6 s0 ) mo_X9_formOf (tat ok_X9_findName_0 (i := 33) (q := 64) rfl rfl) ml_X9_227 ⟨(Nat.le_of_ble_eq_true rfl), (Nat.le_of_ble_eq_true rfl)⟩ ⟨(Nat.le_of_ble_eq_true rfl), (Nat.le_of_ble_eq_true rfl)⟩ (Nat.le_of_ble_eq_true rfl) <|
    V_lstore (lv' := [(8, .long (F_X9_formOf (F_X9_rotated a1 a3 a4 a5) a6 s0)), (7, .int s0), (0, .ref 33), (1, .long a1), (3, .int a3), (4, .int a4), (5, .int a5), (6, .int a6)]) (tat ok_X9_findName_0 (i := 34) (q := 66) rfl rfl) (Nat.le_of_ble_eq_true rfl) rfl <|
    V_iload (tat ok_X9_findName_0 (i := 35) (q := 68) rfl rfl) 7 rfl <|
    V_iload (tat ok_X9_findName_0 (i := 36) (q := 70) rfl rfl) 1 rfl <|
    V_icmp_gt (tat ok_X9_findName_0 (i := 37) (q := 73) rfl rfl) rfl (fun c3 => V_pick [2, 3, 4, 5, 6] rfl (V_X9_findName_116_1  hk (jx (P := P) kk (if_pos c3)))) (fun c3 => V_aload_n (tat ok_X9_findName_0 (i := 38) (q := 74) rfl rfl) 2 rfl rfl <|
    V_getI (tat ok_X9_findName_0 (i := 39) (q := 77) rfl rfl) fk_X9_317 rfl <|
    V_bipush (tat ok_X9_findName_1 (i := 0) (q := 79) rfl rfl) bp_m4 <|
    V_icmp_eq (tat ok_X9_findName_1 (i := 1) (q := 82) rfl rfl) rfl (fun c4 => V_pick [2, 3, 4, 5, 6, 7, 1, 0] rfl (V_X9_findName_92_1  hk (jx (P := P) kk (Eq.trans (if_neg c3) (if_pos c4))))) (fun c4 => V_lload (tat ok_X9_findName_1 (i := 2) (q := 84) rfl rfl) 0 rfl <|
    V_aload_n (tat ok_X9_findName_1 (i := 3) (q := 85) rfl rfl) 2 rfl rfl <|
    V_getL (tat ok_X9_findName_1 (i := 4) (q := 88) rfl rfl) fk_X9_320 rfl <|
    V_lcmp (tat ok_X9_findName_1 (i := 5) (q := 89) rfl rfl) <|
    V_if_ge (tat ok_X9_findName_1 (i := 6) (q := 92) rfl rfl) rfl (fun c5 => V_pick [2, 3, 4, 5, 6] rfl (V_X9_findName_116_1  hk (jx (P := P) kk (Eq.trans (if_neg c3) (Eq.trans (if_neg c4) (if_pos c5)))))) (fun c5 => V_pick [2, 3, 4, 5, 6, 7, 1, 0] rfl (V_X9_findName_92_1  hk (jx (P := P) kk (Eq.trans (if_neg c3) (Eq.trans (if_neg c4) (if_neg c5))))))))
def F_X9_findName_30_1 (I : WI) (L : WL) (a1 : Int64) (a3 : Int32) (a4 : Int32) (a5 : Int32) (s0 : Int32) : (WI × WL) :=
  (if (a5 - a5 / 2 * 2) = 1 then (F_X9_findName_46_1 I L a1 a3 a4 a5 s0 a3) else (F_X9_findName_46_1 I L a1 a3 a4 a5 s0 a4))
theorem V_X9_findName_30_1  {I : WI} {L : WL} {a1 : Int64} {a3 : Int32} {a4 : Int32} {a5 : Int32} {s0 : Int32} {P : (WI × WL) → Prop} {t : Tg} (hk : ∀ x : (WI × WL), P x → V (zM x_X9_findName 4 0 0 t) 9 [(0, .ref 33), (1, .long a1), (3, .int a3), (4, .int a4), (5, .int (a5 + 1))] [] ly0 (p1 x) (p2 x) R0 0 0) (kk : P (F_X9_findName_30_1 I L a1 a3 a4 a5 s0)) : V (zM x_X9_findName 4 0 0 t) 30 [(0, .ref 33), (1, .long a1), (3, .int a3), (4, .int a4), (5, .int a5)] [.int s0] ly0 I L R0 0 0 :=
  V_istore (lv' := [(6, .int s0), (0, .ref 33), (1, .long a1), (3, .int a3), (4, .int a4), (5, .int a5)]) (tat ok_X9_findName_0 (i := 16) (q := 32) rfl rfl) (Nat.le_of_ble_eq_true rfl) rfl <|
    V_iload (tat ok_X9_findName_0 (i := 17) (q := 34) rfl rfl) 5 rfl <|
    V_iconst (tat ok_X9_findName_0 (i := 18) (q := 35) rfl rfl) ic_2 <|
    V_irem (tat ok_X9_findName_0 (i := 19) (q := 36) rfl rfl) (by decide) <|
    V_iconst (tat ok_X9_findName_0 (i := 20) (q := 37) rfl rfl) ic_1 <|
    V_icmp_ne (tat ok_X9_findName_0 (i := 21) (q := 40) rfl rfl) rfl (fun c2 => V_iload (tat ok_X9_findName_0 (i := 24) (q := 46) rfl rfl) 4 rfl <|
    V_pick [1, 2, 3, 4, 5, 0] rfl (V_X9_findName_46_1  hk (jx (P := P) kk (if_neg c2)))) (fun c2 => V_iload_n (tat ok_X9_findName_0 (i := 22) (q := 41) rfl rfl) 3 rfl rfl <|
    V_goto (tat ok_X9_findName_0 (i := 23) (q := 44) rfl rfl) rfl <|
    V_pick [1, 2, 3, 4, 5, 0] rfl (V_X9_findName_46_1  hk (jx (P := P) kk (if_pos c2))))
def F_X9_findName_16_1 (I : WI) (L : WL) (a1 : Int64) (a3 : Int32) (a4 : Int32) (a5 : Int32) : (WI × WL) :=
  (if (a5 - a5 / 2 * 2) = 1 then (F_X9_findName_30_1 I L a1 a3 a4 a5 a4) else (F_X9_findName_30_1 I L a1 a3 a4 a5 a3))
theorem V_X9_findName_16_1  {I : WI} {L : WL} {a1 : Int64} {a3 : Int32} {a4 : Int32} {a5 : Int32}  {P : (WI × WL) → Prop} {t : Tg} (hk : ∀ x : (WI × WL), P x → V (zM x_X9_findName 4 0 0 t) 9 [(0, .ref 33), (1, .long a1), (3, .int a3), (4, .int a4), (5, .int (a5 + 1))] [] ly0 (p1 x) (p2 x) R0 0 0) (kk : P (F_X9_findName_16_1 I L a1 a3 a4 a5)) : V (zM x_X9_findName 4 0 0 t) 16 [(0, .ref 33), (1, .long a1), (3, .int a3), (4, .int a4), (5, .int a5)] [] ly0 I L R0 0 0 :=
  V_iload (tat ok_X9_findName_0 (i := 8) (q := 18) rfl rfl) 4 rfl <|
    V_iconst (tat ok_X9_findName_0 (i := 9) (q := 19) rfl rfl) ic_2 <|
    V_irem (tat ok_X9_findName_0 (i := 10) (q := 20) rfl rfl) (by decide) <|
    V_iconst (tat ok_X9_findName_0 (i := 11) (q := 21) rfl rfl) ic_1 <|
    V_icmp_ne (tat ok_X9_findName_0 (i := 12) (q := 24) rfl rfl) rfl (fun c1 => V_iload_n (tat ok_X9_findName_0 (i := 15) (q := 30) rfl rfl) 2 rfl rfl <|
    V_X9_findName_30_1  hk (jx (P := P) kk (if_neg c1))) (fun c1 => V_iload (tat ok_X9_findName_0 (i := 13) (q := 26) rfl rfl) 3 rfl <|
    V_goto (tat ok_X9_findName_0 (i := 14) (q := 29) rfl rfl) rfl <|
    V_X9_findName_30_1  hk (jx (P := P) kk (if_pos c1)))
def F_X9_findName_122 (I : WI) (L : WL) (a1 : Int64) (a3 : Int32) (a4 : Int32) : (WI × WL) :=
  (I, L)
theorem V_X9_findName_122  {I : WI} {L : WL} {a1 : Int64} {a3 : Int32} {a4 : Int32}  {P : (WI × WL) → Prop} {t : Tg} (hr : ∀ v, P v → t = (none, ly0, (p1 v), (p2 v), R0)) (kk : P (F_X9_findName_122 I L a1 a3 a4)) : V (zM x_X9_findName 4 0 0 t) 122 [(0, .ref 33), (1, .long a1), (3, .int a3), (4, .int a4)] [] ly0 I L R0 0 0 :=
  V_vret (tat ok_X9_findName_1 (i := 21) (q := 123) rfl rfl) rfl (hr (I, L) (jx (P := P) kk rfl)) ⟨(Nat.le_of_ble_eq_true rfl), (Nat.le_of_ble_eq_true rfl)⟩
def F_X9_findName_9 (I : WI) (L : WL) (a1 : Int64) (a3 : Int32) (a4 : Int32) (a5 : Int32) : (WI × WL) :=
  (fun q : Int32 × (WI × WL) => (F_X9_findName_122 (p1 (p2 q)) (p2 (p2 q)) a1 a3 a4)) (fr0 (fun i x => (F_X9_findName_16_1 (p1 x) (p2 x) a1 a3 a4 i)) 8 (fu a5 8) a5 (I, L))
theorem V_X9_findName_9  {I : WI} {L : WL} {a1 : Int64} {a3 : Int32} {a4 : Int32} {a5 : Int32} {P : (WI × WL) → Prop} {t : Tg} (hb5 : bz a5 = a5) (hr : ∀ v, P v → t = (none, ly0, (p1 v), (p2 v), R0)) (kk : P (F_X9_findName_9 I L a1 a3 a4 a5)) : V (zM x_X9_findName 4 0 0 t) 9 [(0, .ref 33), (1, .long a1), (3, .int a3), (4, .int a4), (5, .int a5)] [] ly0 I L R0 0 0 :=
  V_fr0 (fun i x => (F_X9_findName_16_1 (p1 x) (p2 x) a1 a3 a4 i)) 8 (fun i x => V (zM x_X9_findName 4 0 0 t) 9 [(0, .ref 33), (1, .long a1), (3, .int a3), (4, .int a4), (5, .int i)] [] ly0 (p1 x) (p2 x) R0 0 0) (fun i x => P ((F_X9_findName_122 (p1 x) (p2 x) a1 a3 a4))) (c := a5) (s := (I, L)) (fun i x kx kb => V_iload (tat ok_X9_findName_0 (i := 5) (q := 11) rfl rfl) 4 rfl <|
    V_bipush (tat ok_X9_findName_0 (i := 6) (q := 13) rfl rfl) bp_8 <|
    V_icmp_ge (tat ok_X9_findName_0 (i := 7) (q := 16) rfl rfl) rfl (fun c0 => V_pick [0, 1, 2, 3] rfl (V_X9_findName_122  hr (kx c0))) (fun c0 => V_X9_findName_16_1 (P := (fun x => (fun i x => V (zM x_X9_findName 4 0 0 t) 9 [(0, .ref 33), (1, .long a1), (3, .int a3), (4, .int a4), (5, .int i)] [] ly0 (p1 x) (p2 x) R0 0 0) (i + 1) x))  (fun _ e => e) (kb c0))) kk
def F_X9_findName (I : WI) (L : WL) (a1 : Int64) (a3 : Int32) (a4 : Int32) : (WI × WL) :=
  (F_X9_findName_9 (u2 I 33 40 (-4)) L a1 a3 a4 0)
theorem V_X9_findName  {I : WI} {L : WL} {a1 : Int64} {a3 : Int32} {a4 : Int32}  {P : (WI × WL) → Prop} {t : Tg} (hr : ∀ v, P v → t = (none, ly0, (p1 v), (p2 v), R0)) (kk : P (F_X9_findName I L a1 a3 a4)) : V (zM x_X9_findName 4 0 0 t) 0 [(0, .ref 33), (1, .long a1), (3, .int a3), (4, .int a4)] [] ly0 I L R0 0 0 :=
  V_aload_n (tat ok_X9_findName_0 (i := 0) (q := 1) rfl rfl) 0 rfl rfl <|
    V_bipush (tat ok_X9_findName_0 (i := 1) (q := 3) rfl rfl) bp_m4 <|
    V_putI (tat ok_X9_findName_0 (i := 2) (q := 6) rfl rfl) fk_X9_317 rfl rfl <|
    V_iconst (tat ok_X9_findName_0 (i := 3) (q := 7) rfl rfl) ic_0 <|
    V_istore (lv' := [(5, .int 0), (0, .ref 33), (1, .long a1), (3, .int a3), (4, .int a4)]) (tat ok_X9_findName_0 (i := 4) (q := 9) rfl rfl) (Nat.le_of_ble_eq_true rfl) rfl <|
    V_pick [1, 2, 3, 4, 0] rfl (V_X9_findName_9 rfl hr (jx (P := P) kk rfl))
theorem ct_X9_findName  (I : WI) (L : WL) (a1 : Int64) (a3 : Int32) (a4 : Int32)  : Ct x_X9_findName 4 [.ref 33, .long a1, .int a3, .int a4] ly0 I L R0 0 0 (none, ly0, (p1 (F_X9_findName I L a1 a3 a4)), (p2 (F_X9_findName I L a1 a3 a4)), R0) :=
  Ct_of_V mo_X9_findName.1 (Nat.le_of_ble_eq_true rfl) (V_X9_findName (P := fun x => x = (F_X9_findName I L a1 a3 a4))  (fun _ e => by rw [e]) rfl)
def F_X9_name_46 (I : WI) (L : WL) (a1 : Int32) (s0 : Int64) : (Int64 × WI × WL) :=
  (s0, I, L)
theorem V_X9_name_46  {I : WI} {L : WL} {a1 : Int32} {s0 : Int64} {P : (Int64 × WI × WL) → Prop} {t : Tg} (hr : ∀ v, P v → t = (some (.long (p1 v)), ly0, (p1 (p2 v)), (p2 (p2 v)), R0)) (kk : P (F_X9_name_46 I L a1 s0)) : V (zM x_X9_name 5 0 0 t) 46 [(0, .ref 33), (1, .int a1)] [.long s0] ly0 I L R0 0 0 :=
  V_lret (tat ok_X9_name_0 (i := 24) (q := 47) rfl rfl) rfl (hr (s0, I, L) (jx (P := P) kk rfl)) ⟨(Nat.le_of_ble_eq_true rfl), (Nat.le_of_ble_eq_true rfl)⟩
def F_X9_name (I : WI) (L : WL) (a1 : Int32) : (Int64 × WI × WL) :=
  (if (F_X9_in (Int32.toInt64 a1) 0 1) = 0 then ((-1), I, L) else (if a1 = 0 then (F_X9_name_46 (p1 (F_X9_findName I L (L 33 2) (I 33 0) (I 33 1))) (p2 (F_X9_findName I L (L 33 2) (I 33 0) (I 33 1))) a1 ((p2 (F_X9_findName I L (L 33 2) (I 33 0) (I 33 1))) 33 39)) else (F_X9_name_46 (p1 (F_X9_findName I L (L 33 2) (I 33 0) (I 33 1))) (p2 (F_X9_findName I L (L 33 2) (I 33 0) (I 33 1))) a1 (Int32.toInt64 ((p1 (F_X9_findName I L (L 33 2) (I 33 0) (I 33 1))) 33 40)))))
theorem V_X9_name  {I : WI} {L : WL} {a1 : Int32}  {P : (Int64 × WI × WL) → Prop} {t : Tg} (hr : ∀ v, P v → t = (some (.long (p1 v)), ly0, (p1 (p2 v)), (p2 (p2 v)), R0)) (kk : P (F_X9_name I L a1)) : V (zM x_X9_name 5 0 0 t) 0 [(0, .ref 33), (1, .int a1)] [] ly0 I L R0 0 0 :=
  V_iload_n (tat ok_X9_name_0 (i := 0) (q := 1) rfl rfl) 1 rfl rfl <|
    V_i2l (tat ok_X9_name_0 (i := 1) (q := 2) rfl rfl) <|
    V_lconst (v := 0) (tat ok_X9_name_0 (i := 2) (q := 3) rfl rfl) rfl <|
    V_lconst (v := 1) (tat ok_X9_name_0 (i := 3) (q := 4) rfl rfl) rfl <|
    V_cs3 (ct_X9_in I L (Int32.toInt64 a1) 0 1 ) mo_X9_in (tat ok_X9_name_0 (i := 4) (q := 7) rfl rfl) ml_X9_97 ⟨(Nat.le_of_ble_eq_true rfl), (Nat.le_of_ble_eq_true rfl)⟩ ⟨(Nat.le_of_ble_eq_true rfl), (Nat.le_of_ble_eq_true rfl)⟩ (Nat.le_of_ble_eq_true rfl) <|
    V_if_ne (tat ok_X9_name_0 (i := 5) (q := 10) rfl rfl) rfl (fun c1 => V_aload_n (tat ok_X9_name_0 (i := 8) (q := 15) rfl rfl) 0 rfl rfl <|
    V_aload_n (tat ok_X9_name_0 (i := 9) (q := 16) rfl rfl) 0 rfl rfl <|
    V_getL (tat ok_X9_name_0 (i := 10) (q := 19) rfl rfl) fk_X9_80 rfl <|
    V_aload_n (tat ok_X9_name_0 (i := 11) (q := 20) rfl rfl) 0 rfl rfl <|
    V_getI (tat ok_X9_name_0 (i := 12) (q := 23) rfl rfl) fk_X9_74 rfl <|
    V_aload_n (tat ok_X9_name_0 (i := 13) (q := 24) rfl rfl) 0 rfl rfl <|
    V_getI (tat ok_X9_name_0 (i := 14) (q := 27) rfl rfl) fk_X9_77 rfl <|
    V_cv3v (ct_X9_findName I L (L 33 2) (I 33 0) (I 33 1) ) mo_X9_findName (tat ok_X9_name_0 (i := 15) (q := 30) rfl rfl) ml_X9_329 rfl ⟨by decide, _, rfl, rfl⟩ ⟨(Nat.le_of_ble_eq_true rfl), (Nat.le_of_ble_eq_true rfl)⟩ ⟨(Nat.le_of_ble_eq_true rfl), (Nat.le_of_ble_eq_true rfl)⟩ (Nat.le_of_ble_eq_true rfl) <|
    V_iload_n (tat ok_X9_name_0 (i := 16) (q := 31) rfl rfl) 1 rfl rfl <|
    V_if_ne (tat ok_X9_name_0 (i := 17) (q := 34) rfl rfl) rfl (fun c2 => V_aload_n (tat ok_X9_name_0 (i := 21) (q := 42) rfl rfl) 0 rfl rfl <|
    V_getI (tat ok_X9_name_0 (i := 22) (q := 45) rfl rfl) fk_X9_317 rfl <|
    V_i2l (tat ok_X9_name_0 (i := 23) (q := 46) rfl rfl) <|
    V_X9_name_46  hr (jx (P := P) kk (Eq.trans (if_neg c1) (if_neg c2)))) (fun c2 => V_aload_n (tat ok_X9_name_0 (i := 18) (q := 35) rfl rfl) 0 rfl rfl <|
    V_getL (tat ok_X9_name_0 (i := 19) (q := 38) rfl rfl) fk_X9_320 rfl <|
    V_goto (tat ok_X9_name_0 (i := 20) (q := 41) rfl rfl) rfl <|
    V_X9_name_46  hr (jx (P := P) kk (Eq.trans (if_neg c1) (if_pos c2))))) (fun c1 => V_ldc2 (tat ok_X9_name_0 (i := 6) (q := 13) rfl rfl) (gw_in kl_X9_204 rfl) <|
    V_lret (tat ok_X9_name_0 (i := 7) (q := 14) rfl rfl) rfl (hr ((-1), I, L) (jx (P := P) kk (if_pos c1))) ⟨(Nat.le_of_ble_eq_true rfl), (Nat.le_of_ble_eq_true rfl)⟩)
theorem ct_X9_name  (I : WI) (L : WL) (a1 : Int32)  : Ct x_X9_name 5 [.ref 33, .int a1] ly0 I L R0 0 0 (some (.long (p1 (F_X9_name I L a1))), ly0, (p1 (p2 (F_X9_name I L a1))), (p2 (p2 (F_X9_name I L a1))), R0) :=
  Ct_of_V mo_X9_name.1 (Nat.le_of_ble_eq_true rfl) (V_X9_name (P := fun x => x = (F_X9_name I L a1))  (fun _ e => by rw [e]) rfl)
def F_X9_cousin_107 (I : WI) (L : WL) (a1 : Int32) (s0 : Int32) : Option (Int32 × WI × WL) :=
  some ((F_X9_flag s0), I, L)
theorem V_X9_cousin_107  {I : WI} {L : WL} {a1 : Int32} {s0 : Int32} {P : (Int32 × WI × WL) → Prop} {t : Tg} (hs0 : bz s0 = s0) (hr : ∀ v, P v → t = (some (.int (p1 v)), ly0, (p1 (p2 v)), (p2 (p2 v)), R0)) (kk : oP P (F_X9_cousin_107 I L a1 s0)) : V (zM x_X9_cousin 5 0 0 t) 107 [(0, .ref 33), (1, .int a1)] [.int s0] ly0 I L R0 0 0 :=
  V_cs1 (ct_X9_flag I L s0 ) mo_X9_flag (tat ok_X9_cousin_1 (i := 18) (q := 110) rfl rfl) ml_X9_200 ⟨(Nat.le_of_ble_eq_true rfl), (Nat.le_of_ble_eq_true rfl)⟩ ⟨(Nat.le_of_ble_eq_true rfl), (Nat.le_of_ble_eq_true rfl)⟩ (Nat.le_of_ble_eq_true rfl) <|
    V_iret (tat ok_X9_cousin_1 (i := 19) (q := 111) rfl rfl) _ rfl (nar_int _) (hr ((F_X9_flag s0), I, L) (jx (P := oP P) kk rfl)) ⟨(Nat.le_of_ble_eq_true rfl), (Nat.le_of_ble_eq_true rfl)⟩
def F_X9_cousin_106 (I : WI) (L : WL) (a1 : Int32) : Option (Int32 × WI × WL) :=
  (F_X9_cousin_107 I L a1 0)
theorem V_X9_cousin_106  {I : WI} {L : WL} {a1 : Int32}  {P : (Int32 × WI × WL) → Prop} {t : Tg} (hr : ∀ v, P v → t = (some (.int (p1 v)), ly0, (p1 (p2 v)), (p2 (p2 v)), R0)) (kk : oP P (F_X9_cousin_106 I L a1)) : V (zM x_X9_cousin 5 0 0 t) 106 [(0, .ref 33), (1, .int a1)] [] ly0 I L R0 0 0 :=
  V_iconst (tat ok_X9_cousin_1 (i := 17) (q := 107) rfl rfl) ic_0 <|
    V_X9_cousin_107 rfl hr (jx (P := oP P) kk rfl)
def F_X9_cousin (I : WI) (L : WL) (a1 : Int32) : Option (Int32 × WI × WL) :=
  (Option.bind (F_X9_isImage a1) (fun v1 => (if v1 = 0 then some ((-1), I, L) else (Option.bind (F_X9_isKept I a1) (fun v3 => (if v3 = 0 then some ((-2), I, L) else (if a1 < 0 ∨ 2 ≤ Int32.toNatClampNeg a1 then none else (if a1 < 0 ∨ 2 ≤ Int32.toNatClampNeg a1 then none else (if a1 < 0 ∨ 2 ≤ Int32.toNatClampNeg a1 then none else (if (lg_cmp ((p2 (F_X9_findName I L (L 35 (Int32.toNatClampNeg a1)) (I 36 (Int32.toNatClampNeg a1)) (I 37 (Int32.toNatClampNeg a1)))) 33 39) ((p2 (F_X9_findName (p1 (F_X9_findName I L (L 35 (Int32.toNatClampNeg a1)) (I 36 (Int32.toNatClampNeg a1)) (I 37 (Int32.toNatClampNeg a1)))) (p2 (F_X9_findName I L (L 35 (Int32.toNatClampNeg a1)) (I 36 (Int32.toNatClampNeg a1)) (I 37 (Int32.toNatClampNeg a1)))) ((p2 (F_X9_findName I L (L 35 (Int32.toNatClampNeg a1)) (I 36 (Int32.toNatClampNeg a1)) (I 37 (Int32.toNatClampNeg a1)))) 33 2) ((p1 (F_X9_findName I L (L 35 (Int32.toNatClampNeg a1)) (I 36 (Int32.toNatClampNeg a1)) (I 37 (Int32.toNatClampNeg a1)))) 33 0) ((p1 (F_X9_findName I L (L 35 (Int32.toNatClampNeg a1)) (I 36 (Int32.toNatClampNeg a1)) (I 37 (Int32.toNatClampNeg a1)))) 33 1))) 33 39)) = 0 then (if ((p1 (F_X9_findName I L (L 35 (Int32.toNatClampNeg a1)) (I 36 (Int32.toNatClampNeg a1)) (I 37 (Int32.toNatClampNeg a1)))) 33 41) = ((p1 (F_X9_findName (p1 (F_X9_findName I L (L 35 (Int32.toNatClampNeg a1)) (I 36 (Int32.toNatClampNeg a1)) (I 37 (Int32.toNatClampNeg a1)))) (p2 (F_X9_findName I L (L 35 (Int32.toNatClampNeg a1)) (I 36 (Int32.toNatClampNeg a1)) (I 37 (Int32.toNatClampNeg a1)))) ((p2 (F_X9_findName I L (L 35 (Int32.toNatClampNeg a1)) (I 36 (Int32.toNatClampNeg a1)) (I 37 (Int32.toNatClampNeg a1)))) 33 2) ((p1 (F_X9_findName I L (L 35 (Int32.toNatClampNeg a1)) (I 36 (Int32.toNatClampNeg a1)) (I 37 (Int32.toNatClampNeg a1)))) 33 0) ((p1 (F_X9_findName I L (L 35 (Int32.toNatClampNeg a1)) (I 36 (Int32.toNatClampNeg a1)) (I 37 (Int32.toNatClampNeg a1)))) 33 1))) 33 41) then (if ((p1 (F_X9_findName I L (L 35 (Int32.toNatClampNeg a1)) (I 36 (Int32.toNatClampNeg a1)) (I 37 (Int32.toNatClampNeg a1)))) 33 42) = ((p1 (F_X9_findName (p1 (F_X9_findName I L (L 35 (Int32.toNatClampNeg a1)) (I 36 (Int32.toNatClampNeg a1)) (I 37 (Int32.toNatClampNeg a1)))) (p2 (F_X9_findName I L (L 35 (Int32.toNatClampNeg a1)) (I 36 (Int32.toNatClampNeg a1)) (I 37 (Int32.toNatClampNeg a1)))) ((p2 (F_X9_findName I L (L 35 (Int32.toNatClampNeg a1)) (I 36 (Int32.toNatClampNeg a1)) (I 37 (Int32.toNatClampNeg a1)))) 33 2) ((p1 (F_X9_findName I L (L 35 (Int32.toNatClampNeg a1)) (I 36 (Int32.toNatClampNeg a1)) (I 37 (Int32.toNatClampNeg a1)))) 33 0) ((p1 (F_X9_findName I L (L 35 (Int32.toNatClampNeg a1)) (I 36 (Int32.toNatClampNeg a1)) (I 37 (Int32.toNatClampNeg a1)))) 33 1))) 33 42) then (F_X9_cousin_107 (p1 (F_X9_findName (p1 (F_X9_findName I L (L 35 (Int32.toNatClampNeg a1)) (I 36 (Int32.toNatClampNeg a1)) (I 37 (Int32.toNatClampNeg a1)))) (p2 (F_X9_findName I L (L 35 (Int32.toNatClampNeg a1)) (I 36 (Int32.toNatClampNeg a1)) (I 37 (Int32.toNatClampNeg a1)))) ((p2 (F_X9_findName I L (L 35 (Int32.toNatClampNeg a1)) (I 36 (Int32.toNatClampNeg a1)) (I 37 (Int32.toNatClampNeg a1)))) 33 2) ((p1 (F_X9_findName I L (L 35 (Int32.toNatClampNeg a1)) (I 36 (Int32.toNatClampNeg a1)) (I 37 (Int32.toNatClampNeg a1)))) 33 0) ((p1 (F_X9_findName I L (L 35 (Int32.toNatClampNeg a1)) (I 36 (Int32.toNatClampNeg a1)) (I 37 (Int32.toNatClampNeg a1)))) 33 1))) (p2 (F_X9_findName (p1 (F_X9_findName I L (L 35 (Int32.toNatClampNeg a1)) (I 36 (Int32.toNatClampNeg a1)) (I 37 (Int32.toNatClampNeg a1)))) (p2 (F_X9_findName I L (L 35 (Int32.toNatClampNeg a1)) (I 36 (Int32.toNatClampNeg a1)) (I 37 (Int32.toNatClampNeg a1)))) ((p2 (F_X9_findName I L (L 35 (Int32.toNatClampNeg a1)) (I 36 (Int32.toNatClampNeg a1)) (I 37 (Int32.toNatClampNeg a1)))) 33 2) ((p1 (F_X9_findName I L (L 35 (Int32.toNatClampNeg a1)) (I 36 (Int32.toNatClampNeg a1)) (I 37 (Int32.toNatClampNeg a1)))) 33 0) ((p1 (F_X9_findName I L (L 35 (Int32.toNatClampNeg a1)) (I 36 (Int32.toNatClampNeg a1)) (I 37 (Int32.toNatClampNeg a1)))) 33 1))) a1 1) else (F_X9_cousin_106 (p1 (F_X9_findName (p1 (F_X9_findName I L (L 35 (Int32.toNatClampNeg a1)) (I 36 (Int32.toNatClampNeg a1)) (I 37 (Int32.toNatClampNeg a1)))) (p2 (F_X9_findName I L (L 35 (Int32.toNatClampNeg a1)) (I 36 (Int32.toNatClampNeg a1)) (I 37 (Int32.toNatClampNeg a1)))) ((p2 (F_X9_findName I L (L 35 (Int32.toNatClampNeg a1)) (I 36 (Int32.toNatClampNeg a1)) (I 37 (Int32.toNatClampNeg a1)))) 33 2) ((p1 (F_X9_findName I L (L 35 (Int32.toNatClampNeg a1)) (I 36 (Int32.toNatClampNeg a1)) (I 37 (Int32.toNatClampNeg a1)))) 33 0) ((p1 (F_X9_findName I L (L 35 (Int32.toNatClampNeg a1)) (I 36 (Int32.toNatClampNeg a1)) (I 37 (Int32.toNatClampNeg a1)))) 33 1))) (p2 (F_X9_findName (p1 (F_X9_findName I L (L 35 (Int32.toNatClampNeg a1)) (I 36 (Int32.toNatClampNeg a1)) (I 37 (Int32.toNatClampNeg a1)))) (p2 (F_X9_findName I L (L 35 (Int32.toNatClampNeg a1)) (I 36 (Int32.toNatClampNeg a1)) (I 37 (Int32.toNatClampNeg a1)))) ((p2 (F_X9_findName I L (L 35 (Int32.toNatClampNeg a1)) (I 36 (Int32.toNatClampNeg a1)) (I 37 (Int32.toNatClampNeg a1)))) 33 2) ((p1 (F_X9_findName I L (L 35 (Int32.toNatClampNeg a1)) (I 36 (Int32.toNatClampNeg a1)) (I 37 (Int32.toNatClampNeg a1)))) 33 0) ((p1 (F_X9_findName I L (L 35 (Int32.toNatClampNeg a1)) (I 36 (Int32.toNatClampNeg a1)) (I 37 (Int32.toNatClampNeg a1)))) 33 1))) a1)) else (F_X9_cousin_106 (p1 (F_X9_findName (p1 (F_X9_findName I L (L 35 (Int32.toNatClampNeg a1)) (I 36 (Int32.toNatClampNeg a1)) (I 37 (Int32.toNatClampNeg a1)))) (p2 (F_X9_findName I L (L 35 (Int32.toNatClampNeg a1)) (I 36 (Int32.toNatClampNeg a1)) (I 37 (Int32.toNatClampNeg a1)))) ((p2 (F_X9_findName I L (L 35 (Int32.toNatClampNeg a1)) (I 36 (Int32.toNatClampNeg a1)) (I 37 (Int32.toNatClampNeg a1)))) 33 2) ((p1 (F_X9_findName I L (L 35 (Int32.toNatClampNeg a1)) (I 36 (Int32.toNatClampNeg a1)) (I 37 (Int32.toNatClampNeg a1)))) 33 0) ((p1 (F_X9_findName I L (L 35 (Int32.toNatClampNeg a1)) (I 36 (Int32.toNatClampNeg a1)) (I 37 (Int32.toNatClampNeg a1)))) 33 1))) (p2 (F_X9_findName (p1 (F_X9_findName I L (L 35 (Int32.toNatClampNeg a1)) (I 36 (Int32.toNatClampNeg a1)) (I 37 (Int32.toNatClampNeg a1)))) (p2 (F_X9_findName I L (L 35 (Int32.toNatClampNeg a1)) (I 36 (Int32.toNatClampNeg a1)) (I 37 (Int32.toNatClampNeg a1)))) ((p2 (F_X9_findName I L (L 35 (Int32.toNatClampNeg a1)) (I 36 (Int32.toNatClampNeg a1)) (I 37 (Int32.toNatClampNeg a1)))) 33 2) ((p1 (F_X9_findName I L (L 35 (Int32.toNatClampNeg a1)) (I 36 (Int32.toNatClampNeg a1)) (I 37 (Int32.toNatClampNeg a1)))) 33 0) ((p1 (F_X9_findName I L (L 35 (Int32.toNatClampNeg a1)) (I 36 (Int32.toNatClampNeg a1)) (I 37 (Int32.toNatClampNeg a1)))) 33 1))) a1)) else (F_X9_cousin_106 (p1 (F_X9_findName (p1 (F_X9_findName I L (L 35 (Int32.toNatClampNeg a1)) (I 36 (Int32.toNatClampNeg a1)) (I 37 (Int32.toNatClampNeg a1)))) (p2 (F_X9_findName I L (L 35 (Int32.toNatClampNeg a1)) (I 36 (Int32.toNatClampNeg a1)) (I 37 (Int32.toNatClampNeg a1)))) ((p2 (F_X9_findName I L (L 35 (Int32.toNatClampNeg a1)) (I 36 (Int32.toNatClampNeg a1)) (I 37 (Int32.toNatClampNeg a1)))) 33 2) ((p1 (F_X9_findName I L (L 35 (Int32.toNatClampNeg a1)) (I 36 (Int32.toNatClampNeg a1)) (I 37 (Int32.toNatClampNeg a1)))) 33 0) ((p1 (F_X9_findName I L (L 35 (Int32.toNatClampNeg a1)) (I 36 (Int32.toNatClampNeg a1)) (I 37 (Int32.toNatClampNeg a1)))) 33 1))) (p2 (F_X9_findName (p1 (F_X9_findName I L (L 35 (Int32.toNatClampNeg a1)) (I 36 (Int32.toNatClampNeg a1)) (I 37 (Int32.toNatClampNeg a1)))) (p2 (F_X9_findName I L (L 35 (Int32.toNatClampNeg a1)) (I 36 (Int32.toNatClampNeg a1)) (I 37 (Int32.toNatClampNeg a1)))) ((p2 (F_X9_findName I L (L 35 (Int32.toNatClampNeg a1)) (I 36 (Int32.toNatClampNeg a1)) (I 37 (Int32.toNatClampNeg a1)))) 33 2) ((p1 (F_X9_findName I L (L 35 (Int32.toNatClampNeg a1)) (I 36 (Int32.toNatClampNeg a1)) (I 37 (Int32.toNatClampNeg a1)))) 33 0) ((p1 (F_X9_findName I L (L 35 (Int32.toNatClampNeg a1)) (I 36 (Int32.toNatClampNeg a1)) (I 37 (Int32.toNatClampNeg a1)))) 33 1))) a1)))))))))))
theorem V_X9_cousin  {I : WI} {L : WL} {a1 : Int32}  {P : (Int32 × WI × WL) → Prop} {t : Tg} (hr : ∀ v, P v → t = (some (.int (p1 v)), ly0, (p1 (p2 v)), (p2 (p2 v)), R0)) (kk : oP P (F_X9_cousin I L a1)) : V (zM x_X9_cousin 5 0 0 t) 0 [(0, .ref 33), (1, .int a1)] [] ly0 I L R0 0 0 :=
  V_iload_n (tat ok_X9_cousin_0 (i := 0) (q := 1) rfl rfl) 1 rfl rfl <|
    oP_case (jx (P := oP P) kk rfl) (fun v1 e1 _ => V_cs1 (ct_X9_isImage I L a1  e1) mo_X9_isImage (tat ok_X9_cousin_0 (i := 1) (q := 4) rfl rfl) ml_X9_235 ⟨(Nat.le_of_ble_eq_true rfl), (Nat.le_of_ble_eq_true rfl)⟩ ⟨(Nat.le_of_ble_eq_true rfl), (Nat.le_of_ble_eq_true rfl)⟩ (Nat.le_of_ble_eq_true rfl) <|
    V_if_ne (tat ok_X9_cousin_0 (i := 2) (q := 7) rfl rfl) rfl (fun c2 => V_aload_n (tat ok_X9_cousin_0 (i := 5) (q := 10) rfl rfl) 0 rfl rfl <|
    V_iload_n (tat ok_X9_cousin_0 (i := 6) (q := 11) rfl rfl) 1 rfl rfl <|
    oP_case (jx (P := oP P) kk (Eq.trans (ob e1) (if_neg c2))) (fun v3 e3 _ => V_cv1 (ct_X9_isKept I L a1  e3) mo_X9_isKept (tat ok_X9_cousin_0 (i := 7) (q := 14) rfl rfl) ml_X9_239 rfl ⟨by decide, _, rfl, rfl⟩ ⟨(Nat.le_of_ble_eq_true rfl), (Nat.le_of_ble_eq_true rfl)⟩ ⟨(Nat.le_of_ble_eq_true rfl), (Nat.le_of_ble_eq_true rfl)⟩ (Nat.le_of_ble_eq_true rfl) <|
    V_if_ne (tat ok_X9_cousin_0 (i := 8) (q := 17) rfl rfl) rfl (fun c4 => V_aload_n (tat ok_X9_cousin_0 (i := 11) (q := 21) rfl rfl) 0 rfl rfl <|
    V_aload_n (tat ok_X9_cousin_0 (i := 12) (q := 22) rfl rfl) 0 rfl rfl <|
    V_getR (tat ok_X9_cousin_0 (i := 13) (q := 25) rfl rfl) fk_X9_13 rfl rfl <|
    V_iload_n (tat ok_X9_cousin_0 (i := 14) (q := 26) rfl rfl) 1 rfl rfl <|
    (if c5 : a1 < 0 ∨ 2 ≤ Int32.toNatClampNeg a1 then ((jx (P := oP P) kk (Eq.trans (ob e1) (Eq.trans (if_neg c2) (Eq.trans (ob e3) (Eq.trans (if_neg c4) (if_pos c5))))))).elim else V_lald (tat ok_X9_cousin_0 (i := 15) (q := 27) rfl rfl) rfl c5 <|
    V_aload_n (tat ok_X9_cousin_0 (i := 16) (q := 28) rfl rfl) 0 rfl rfl <|
    V_getR (tat ok_X9_cousin_0 (i := 17) (q := 31) rfl rfl) fk_X9_17 rfl rfl <|
    V_iload_n (tat ok_X9_cousin_0 (i := 18) (q := 32) rfl rfl) 1 rfl rfl <|
    (if c6 : a1 < 0 ∨ 2 ≤ Int32.toNatClampNeg a1 then ((jx (P := oP P) kk (Eq.trans (ob e1) (Eq.trans (if_neg c2) (Eq.trans (ob e3) (Eq.trans (if_neg c4) (Eq.trans (if_neg c5) (if_pos c6)))))))).elim else V_iald (tat ok_X9_cousin_0 (i := 19) (q := 33) rfl rfl) rfl c6 <|
    V_aload_n (tat ok_X9_cousin_0 (i := 20) (q := 34) rfl rfl) 0 rfl rfl <|
    V_getR (tat ok_X9_cousin_0 (i := 21) (q := 37) rfl rfl) fk_X9_20 rfl rfl <|
    V_iload_n (tat ok_X9_cousin_0 (i := 22) (q := 38) rfl rfl) 1 rfl rfl <|
    (if c7 : a1 < 0 ∨ 2 ≤ Int32.toNatClampNeg a1 then ((jx (P := oP P) kk (Eq.trans (ob e1) (Eq.trans (if_neg c2) (Eq.trans (ob e3) (Eq.trans (if_neg c4) (Eq.trans (if_neg c5) (Eq.trans (if_neg c6) (if_pos c7))))))))).elim else V_iald (tat ok_X9_cousin_0 (i := 23) (q := 39) rfl rfl) rfl c7 <|
    V_cv3v (ct_X9_findName I L (L 35 (Int32.toNatClampNeg a1)) (I 36 (Int32.toNatClampNeg a1)) (I 37 (Int32.toNatClampNeg a1)) ) mo_X9_findName (tat ok_X9_cousin_0 (i := 24) (q := 42) rfl rfl) ml_X9_329 rfl ⟨by decide, _, rfl, rfl⟩ ⟨(Nat.le_of_ble_eq_true rfl), (Nat.le_of_ble_eq_true rfl)⟩ ⟨(Nat.le_of_ble_eq_true rfl), (Nat.le_of_ble_eq_true rfl)⟩ (Nat.le_of_ble_eq_true rfl) <|
    V_aload_n (tat ok_X9_cousin_0 (i := 25) (q := 43) rfl rfl) 0 rfl rfl <|
    V_getL (tat ok_X9_cousin_0 (i := 26) (q := 46) rfl rfl) fk_X9_320 rfl <|
    V_lstore_n (lv' := [(2, .long ((p2 (F_X9_findName I L (L 35 (Int32.toNatClampNeg a1)) (I 36 (Int32.toNatClampNeg a1)) (I 37 (Int32.toNatClampNeg a1)))) 33 39)), (0, .ref 33), (1, .int a1)]) (tat ok_X9_cousin_0 (i := 27) (q := 47) rfl rfl) rfl (Nat.le_of_ble_eq_true rfl) rfl <|
    V_aload_n (tat ok_X9_cousin_0 (i := 28) (q := 48) rfl rfl) 1 rfl rfl <|
    V_getI (tat ok_X9_cousin_0 (i := 29) (q := 51) rfl rfl) fk_X9_323 rfl <|
    V_istore (lv' := [(4, .int ((p1 (F_X9_findName I L (L 35 (Int32.toNatClampNeg a1)) (I 36 (Int32.toNatClampNeg a1)) (I 37 (Int32.toNatClampNeg a1)))) 33 41)), (2, .long ((p2 (F_X9_findName I L (L 35 (Int32.toNatClampNeg a1)) (I 36 (Int32.toNatClampNeg a1)) (I 37 (Int32.toNatClampNeg a1)))) 33 39)), (0, .ref 33), (1, .int a1)]) (tat ok_X9_cousin_0 (i := 30) (q := 53) rfl rfl) (Nat.le_of_ble_eq_true rfl) rfl <|
    V_aload_n (tat ok_X9_cousin_0 (i := 31) (q := 54) rfl rfl) 2 rfl rfl <|
    V_getI (tat ok_X9_cousin_0 (i := 32) (q := 57) rfl rfl) fk_X9_326 rfl <|
    V_istore (lv' := [(5, .int ((p1 (F_X9_findName I L (L 35 (Int32.toNatClampNeg a1)) (I 36 (Int32.toNatClampNeg a1)) (I 37 (Int32.toNatClampNeg a1)))) 33 42)), (4, .int ((p1 (F_X9_findName I L (L 35 (Int32.toNatClampNeg a1)) (I 36 (Int32.toNatClampNeg a1)) (I 37 (Int32.toNatClampNeg a1)))) 33 41)), (2, .long ((p2 (F_X9_findName I L (L 35 (Int32.toNatClampNeg a1)) (I 36 (Int32.toNatClampNeg a1)) (I 37 (Int32.toNatClampNeg a1)))) 33 39)), (0, .ref 33), (1, .int a1)]) (tat ok_X9_cousin_0 (i := 33) (q := 59) rfl rfl) (Nat.le_of_ble_eq_true rfl) rfl <|
    V_aload_n (tat ok_X9_cousin_0 (i := 34) (q := 60) rfl rfl) 3 rfl rfl <|
    V_aload_n (tat ok_X9_cousin_0 (i := 35) (q := 61) rfl rfl) 3 rfl rfl <|
    V_getL (tat ok_X9_cousin_0 (i := 36) (q := 64) rfl rfl) fk_X9_80 rfl <|
    V_aload_n (tat ok_X9_cousin_0 (i := 37) (q := 65) rfl rfl) 3 rfl rfl <|
    V_getI (tat ok_X9_cousin_0 (i := 38) (q := 68) rfl rfl) fk_X9_74 rfl <|
    V_aload_n (tat ok_X9_cousin_0 (i := 39) (q := 69) rfl rfl) 3 rfl rfl <|
    V_getI (tat ok_X9_cousin_1 (i := 0) (q := 72) rfl rfl) fk_X9_77 rfl <|
    V_cv3v (ct_X9_findName (p1 (F_X9_findName I L (L 35 (Int32.toNatClampNeg a1)) (I 36 (Int32.toNatClampNeg a1)) (I 37 (Int32.toNatClampNeg a1)))) (p2 (F_X9_findName I L (L 35 (Int32.toNatClampNeg a1)) (I 36 (Int32.toNatClampNeg a1)) (I 37 (Int32.toNatClampNeg a1)))) ((p2 (F_X9_findName I L (L 35 (Int32.toNatClampNeg a1)) (I 36 (Int32.toNatClampNeg a1)) (I 37 (Int32.toNatClampNeg a1)))) 33 2) ((p1 (F_X9_findName I L (L 35 (Int32.toNatClampNeg a1)) (I 36 (Int32.toNatClampNeg a1)) (I 37 (Int32.toNatClampNeg a1)))) 33 0) ((p1 (F_X9_findName I L (L 35 (Int32.toNatClampNeg a1)) (I 36 (Int32.toNatClampNeg a1)) (I 37 (Int32.toNatClampNeg a1)))) 33 1) ) mo_X9_findName (tat ok_X9_cousin_1 (i := 1) (q := 75) rfl rfl) ml_X9_329 rfl ⟨by decide, _, rfl, rfl⟩ ⟨(Nat.le_of_ble_eq_true rfl), (Nat.le_of_ble_eq_true rfl)⟩ ⟨(Nat.le_of_ble_eq_true rfl), (Nat.le_of_ble_eq_true rfl)⟩ (Nat.le_of_ble_eq_true rfl) <|
    V_lload_n (tat ok_X9_cousin_1 (i := 2) (q := 76) rfl rfl) 2 rfl rfl <|
    V_aload_n (tat ok_X9_cousin_1 (i := 3) (q := 77) rfl rfl) 3 rfl rfl <|
    V_getL (tat ok_X9_cousin_1 (i := 4) (q := 80) rfl rfl) fk_X9_320 rfl <|
    V_lcmp (tat ok_X9_cousin_1 (i := 5) (q := 81) rfl rfl) <|
    V_if_ne (tat ok_X9_cousin_1 (i := 6) (q := 84) rfl rfl) rfl (fun c8 => V_pick [3, 4] rfl (V_X9_cousin_106  hr (jx (P := oP P) kk (Eq.trans (ob e1) (Eq.trans (if_neg c2) (Eq.trans (ob e3) (Eq.trans (if_neg c4) (Eq.trans (if_neg c5) (Eq.trans (if_neg c6) (Eq.trans (if_neg c7) (if_neg c8))))))))))) (fun c8 => V_iload (tat ok_X9_cousin_1 (i := 7) (q := 86) rfl rfl) 1 rfl <|
    V_aload_n (tat ok_X9_cousin_1 (i := 8) (q := 87) rfl rfl) 3 rfl rfl <|
    V_getI (tat ok_X9_cousin_1 (i := 9) (q := 90) rfl rfl) fk_X9_323 rfl <|
    V_icmp_ne (tat ok_X9_cousin_1 (i := 10) (q := 93) rfl rfl) rfl (fun c9 => V_pick [3, 4] rfl (V_X9_cousin_106  hr (jx (P := oP P) kk (Eq.trans (ob e1) (Eq.trans (if_neg c2) (Eq.trans (ob e3) (Eq.trans (if_neg c4) (Eq.trans (if_neg c5) (Eq.trans (if_neg c6) (Eq.trans (if_neg c7) (Eq.trans (if_pos c8) (if_neg c9)))))))))))) (fun c9 => V_iload (tat ok_X9_cousin_1 (i := 11) (q := 95) rfl rfl) 0 rfl <|
    V_aload_n (tat ok_X9_cousin_1 (i := 12) (q := 96) rfl rfl) 3 rfl rfl <|
    V_getI (tat ok_X9_cousin_1 (i := 13) (q := 99) rfl rfl) fk_X9_326 rfl <|
    V_icmp_ne (tat ok_X9_cousin_1 (i := 14) (q := 102) rfl rfl) rfl (fun c10 => V_pick [3, 4] rfl (V_X9_cousin_106  hr (jx (P := oP P) kk (Eq.trans (ob e1) (Eq.trans (if_neg c2) (Eq.trans (ob e3) (Eq.trans (if_neg c4) (Eq.trans (if_neg c5) (Eq.trans (if_neg c6) (Eq.trans (if_neg c7) (Eq.trans (if_pos c8) (Eq.trans (if_pos c9) (if_neg c10))))))))))))) (fun c10 => V_iconst (tat ok_X9_cousin_1 (i := 15) (q := 103) rfl rfl) ic_1 <|
    V_goto (tat ok_X9_cousin_1 (i := 16) (q := 106) rfl rfl) rfl <|
    V_pick [3, 4] rfl (V_X9_cousin_107 rfl hr (jx (P := oP P) kk (Eq.trans (ob e1) (Eq.trans (if_neg c2) (Eq.trans (ob e3) (Eq.trans (if_neg c4) (Eq.trans (if_neg c5) (Eq.trans (if_neg c6) (Eq.trans (if_neg c7) (Eq.trans (if_pos c8) (Eq.trans (if_pos c9) (if_pos c10))))))))))))))))))) (fun c4 => V_bipush (tat ok_X9_cousin_0 (i := 9) (q := 19) rfl rfl) bp_m2 <|
    V_iret (tat ok_X9_cousin_0 (i := 10) (q := 20) rfl rfl) _ rfl (nar_int _) (hr ((-2), I, L) (jx (P := oP P) kk (Eq.trans (ob e1) (Eq.trans (if_neg c2) (Eq.trans (ob e3) (if_pos c4)))))) ⟨(Nat.le_of_ble_eq_true rfl), (Nat.le_of_ble_eq_true rfl)⟩))) (fun c2 => V_iconst (tat ok_X9_cousin_0 (i := 3) (q := 8) rfl rfl) ic_m1 <|
    V_iret (tat ok_X9_cousin_0 (i := 4) (q := 9) rfl rfl) _ rfl (nar_int _) (hr ((-1), I, L) (jx (P := oP P) kk (Eq.trans (ob e1) (if_pos c2)))) ⟨(Nat.le_of_ble_eq_true rfl), (Nat.le_of_ble_eq_true rfl)⟩))
theorem ct_X9_cousin  (I : WI) (L : WL) (a1 : Int32)  {v : (Int32 × WI × WL)} (h : (F_X9_cousin I L a1) = some v) : Ct x_X9_cousin 5 [.ref 33, .int a1] ly0 I L R0 0 0 (some (.int (p1 v)), ly0, (p1 (p2 v)), (p2 (p2 v)), R0) :=
  Ct_of_V mo_X9_cousin.1 (Nat.le_of_ble_eq_true rfl) (V_X9_cousin (P := fun x => x = v)  (fun _ e => by rw [e]) (by rw [h]; exact rfl))
def F_X9_keep (I : WI) (L : WL) (a1 : Int32) : Option (Int32 × WI × WL) :=
  (Option.bind (F_X9_isImage a1) (fun v1 => (if v1 = 0 then some ((-1), I, L) else (Option.bind (F_X9_isKept I a1) (fun v3 => (if a1 < 0 ∨ 2 ≤ Int32.toNatClampNeg a1 then none else (if a1 < 0 ∨ 2 ≤ Int32.toNatClampNeg a1 then none else (if a1 < 0 ∨ 2 ≤ Int32.toNatClampNeg a1 then none else some ((F_X9_flag v3), (u2 (u2 I 36 (Int32.toNatClampNeg a1) (I 33 0)) 37 (Int32.toNatClampNeg a1) ((u2 I 36 (Int32.toNatClampNeg a1) (I 33 0)) 33 1)), (u2 L 35 (Int32.toNatClampNeg a1) (L 33 2)))))))))))
theorem V_X9_keep  {I : WI} {L : WL} {a1 : Int32}  {P : (Int32 × WI × WL) → Prop} {t : Tg} (hr : ∀ v, P v → t = (some (.int (p1 v)), ly0, (p1 (p2 v)), (p2 (p2 v)), R0)) (kk : oP P (F_X9_keep I L a1)) : V (zM x_X9_keep 3 0 0 t) 0 [(0, .ref 33), (1, .int a1)] [] ly0 I L R0 0 0 :=
  V_iload_n (tat ok_X9_keep_0 (i := 0) (q := 1) rfl rfl) 1 rfl rfl <|
    oP_case (jx (P := oP P) kk rfl) (fun v1 e1 _ => V_cs1 (ct_X9_isImage I L a1  e1) mo_X9_isImage (tat ok_X9_keep_0 (i := 1) (q := 4) rfl rfl) ml_X9_235 ⟨(Nat.le_of_ble_eq_true rfl), (Nat.le_of_ble_eq_true rfl)⟩ ⟨(Nat.le_of_ble_eq_true rfl), (Nat.le_of_ble_eq_true rfl)⟩ (Nat.le_of_ble_eq_true rfl) <|
    V_if_ne (tat ok_X9_keep_0 (i := 2) (q := 7) rfl rfl) rfl (fun c2 => V_aload_n (tat ok_X9_keep_0 (i := 5) (q := 10) rfl rfl) 0 rfl rfl <|
    V_iload_n (tat ok_X9_keep_0 (i := 6) (q := 11) rfl rfl) 1 rfl rfl <|
    oP_case (jx (P := oP P) kk (Eq.trans (ob e1) (if_neg c2))) (fun v3 e3 _ => V_cv1 (ct_X9_isKept I L a1  e3) mo_X9_isKept (tat ok_X9_keep_0 (i := 7) (q := 14) rfl rfl) ml_X9_239 rfl ⟨by decide, _, rfl, rfl⟩ ⟨(Nat.le_of_ble_eq_true rfl), (Nat.le_of_ble_eq_true rfl)⟩ ⟨(Nat.le_of_ble_eq_true rfl), (Nat.le_of_ble_eq_true rfl)⟩ (Nat.le_of_ble_eq_true rfl) <|
    V_cs1 (ct_X9_flag I L v3 ) mo_X9_flag (tat ok_X9_keep_0 (i := 8) (q := 17) rfl rfl) ml_X9_200 ⟨(Nat.le_of_ble_eq_true rfl), (Nat.le_of_ble_eq_true rfl)⟩ ⟨(Nat.le_of_ble_eq_true rfl), (Nat.le_of_ble_eq_true rfl)⟩ (Nat.le_of_ble_eq_true rfl) <|
    V_istore_n (lv' := [(2, .int (F_X9_flag v3)), (0, .ref 33), (1, .int a1)]) (tat ok_X9_keep_0 (i := 9) (q := 18) rfl rfl) rfl (Nat.le_of_ble_eq_true rfl) rfl <|
    V_aload_n (tat ok_X9_keep_0 (i := 10) (q := 19) rfl rfl) 1 rfl rfl <|
    V_getR (tat ok_X9_keep_0 (i := 11) (q := 22) rfl rfl) fk_X9_13 rfl rfl <|
    V_iload_n (tat ok_X9_keep_0 (i := 12) (q := 23) rfl rfl) 2 rfl rfl <|
    V_aload_n (tat ok_X9_keep_0 (i := 13) (q := 24) rfl rfl) 1 rfl rfl <|
    V_getL (tat ok_X9_keep_0 (i := 14) (q := 27) rfl rfl) fk_X9_80 rfl <|
    (if c4 : a1 < 0 ∨ 2 ≤ Int32.toNatClampNeg a1 then ((jx (P := oP P) kk (Eq.trans (ob e1) (Eq.trans (if_neg c2) (Eq.trans (ob e3) (if_pos c4)))))).elim else V_last (tat ok_X9_keep_0 (i := 15) (q := 28) rfl rfl) rfl c4 <|
    V_aload_n (tat ok_X9_keep_0 (i := 16) (q := 29) rfl rfl) 1 rfl rfl <|
    V_getR (tat ok_X9_keep_0 (i := 17) (q := 32) rfl rfl) fk_X9_17 rfl rfl <|
    V_iload_n (tat ok_X9_keep_0 (i := 18) (q := 33) rfl rfl) 2 rfl rfl <|
    V_aload_n (tat ok_X9_keep_0 (i := 19) (q := 34) rfl rfl) 1 rfl rfl <|
    V_getI (tat ok_X9_keep_0 (i := 20) (q := 37) rfl rfl) fk_X9_74 rfl <|
    (if c5 : a1 < 0 ∨ 2 ≤ Int32.toNatClampNeg a1 then ((jx (P := oP P) kk (Eq.trans (ob e1) (Eq.trans (if_neg c2) (Eq.trans (ob e3) (Eq.trans (if_neg c4) (if_pos c5))))))).elim else V_iast (tat ok_X9_keep_0 (i := 21) (q := 38) rfl rfl) rfl c5 <|
    V_aload_n (tat ok_X9_keep_0 (i := 22) (q := 39) rfl rfl) 1 rfl rfl <|
    V_getR (tat ok_X9_keep_0 (i := 23) (q := 42) rfl rfl) fk_X9_20 rfl rfl <|
    V_iload_n (tat ok_X9_keep_0 (i := 24) (q := 43) rfl rfl) 2 rfl rfl <|
    V_aload_n (tat ok_X9_keep_0 (i := 25) (q := 44) rfl rfl) 1 rfl rfl <|
    V_getI (tat ok_X9_keep_0 (i := 26) (q := 47) rfl rfl) fk_X9_77 rfl <|
    (if c6 : a1 < 0 ∨ 2 ≤ Int32.toNatClampNeg a1 then ((jx (P := oP P) kk (Eq.trans (ob e1) (Eq.trans (if_neg c2) (Eq.trans (ob e3) (Eq.trans (if_neg c4) (Eq.trans (if_neg c5) (if_pos c6)))))))).elim else V_iast (tat ok_X9_keep_0 (i := 27) (q := 48) rfl rfl) rfl c6 <|
    V_iload_n (tat ok_X9_keep_0 (i := 28) (q := 49) rfl rfl) 0 rfl rfl <|
    V_iret (tat ok_X9_keep_0 (i := 29) (q := 50) rfl rfl) _ rfl (nar_int _) (hr ((F_X9_flag v3), (u2 (u2 I 36 (Int32.toNatClampNeg a1) (I 33 0)) 37 (Int32.toNatClampNeg a1) ((u2 I 36 (Int32.toNatClampNeg a1) (I 33 0)) 33 1)), (u2 L 35 (Int32.toNatClampNeg a1) (L 33 2))) (jx (P := oP P) kk (Eq.trans (ob e1) (Eq.trans (if_neg c2) (Eq.trans (ob e3) (Eq.trans (if_neg c4) (Eq.trans (if_neg c5) (if_neg c6)))))))) ⟨(Nat.le_of_ble_eq_true rfl), (Nat.le_of_ble_eq_true rfl)⟩))))) (fun c2 => V_iconst (tat ok_X9_keep_0 (i := 3) (q := 8) rfl rfl) ic_m1 <|
    V_iret (tat ok_X9_keep_0 (i := 4) (q := 9) rfl rfl) _ rfl (nar_int _) (hr ((-1), I, L) (jx (P := oP P) kk (Eq.trans (ob e1) (if_pos c2)))) ⟨(Nat.le_of_ble_eq_true rfl), (Nat.le_of_ble_eq_true rfl)⟩))
theorem ct_X9_keep  (I : WI) (L : WL) (a1 : Int32)  {v : (Int32 × WI × WL)} (h : (F_X9_keep I L a1) = some v) : Ct x_X9_keep 3 [.ref 33, .int a1] ly0 I L R0 0 0 (some (.int (p1 v)), ly0, (p1 (p2 v)), (p2 (p2 v)), R0) :=
  Ct_of_V mo_X9_keep.1 (Nat.le_of_ble_eq_true rfl) (V_X9_keep (P := fun x => x = v)  (fun _ e => by rw [e]) (by rw [h]; exact rfl))
def F_X9_back_32 (I : WI) (L : WL) (a1 : Int32) : Option (Int32 × WI × WL) :=
  (if a1 < 0 ∨ 2 ≤ Int32.toNatClampNeg a1 then none else (if a1 < 0 ∨ 2 ≤ Int32.toNatClampNeg a1 then none else (if a1 < 0 ∨ 2 ≤ Int32.toNatClampNeg a1 then none else some ((F_X9_many ((u2 L 33 2 (L 35 (Int32.toNatClampNeg a1))) 33 2)), (u2 (u2 I 33 0 (I 36 (Int32.toNatClampNeg a1))) 33 1 ((u2 I 33 0 (I 36 (Int32.toNatClampNeg a1))) 37 (Int32.toNatClampNeg a1))), (u2 L 33 2 (L 35 (Int32.toNatClampNeg a1)))))))
theorem V_X9_back_32  {I : WI} {L : WL} {a1 : Int32}  {P : (Int32 × WI × WL) → Prop} {t : Tg} (hr : ∀ v, P v → t = (some (.int (p1 v)), ly0, (p1 (p2 v)), (p2 (p2 v)), R0)) (kk : oP P (F_X9_back_32 I L a1)) : V (zM x_X9_back 3 0 0 t) 32 [(0, .ref 33), (1, .int a1)] [] ly0 I L R0 0 0 :=
  V_aload_n (tat ok_X9_back_0 (i := 17) (q := 33) rfl rfl) 0 rfl rfl <|
    V_aload_n (tat ok_X9_back_0 (i := 18) (q := 34) rfl rfl) 0 rfl rfl <|
    V_getR (tat ok_X9_back_0 (i := 19) (q := 37) rfl rfl) fk_X9_13 rfl rfl <|
    V_iload_n (tat ok_X9_back_0 (i := 20) (q := 38) rfl rfl) 1 rfl rfl <|
    (if c7 : a1 < 0 ∨ 2 ≤ Int32.toNatClampNeg a1 then ((jx (P := oP P) kk (if_pos c7))).elim else V_lald (tat ok_X9_back_0 (i := 21) (q := 39) rfl rfl) rfl c7 <|
    V_putL (tat ok_X9_back_0 (i := 22) (q := 42) rfl rfl) fk_X9_80 rfl rfl <|
    V_aload_n (tat ok_X9_back_0 (i := 23) (q := 43) rfl rfl) 0 rfl rfl <|
    V_aload_n (tat ok_X9_back_0 (i := 24) (q := 44) rfl rfl) 0 rfl rfl <|
    V_getR (tat ok_X9_back_0 (i := 25) (q := 47) rfl rfl) fk_X9_17 rfl rfl <|
    V_iload_n (tat ok_X9_back_0 (i := 26) (q := 48) rfl rfl) 1 rfl rfl <|
    (if c8 : a1 < 0 ∨ 2 ≤ Int32.toNatClampNeg a1 then ((jx (P := oP P) kk (Eq.trans (if_neg c7) (if_pos c8)))).elim else V_iald (tat ok_X9_back_0 (i := 27) (q := 49) rfl rfl) rfl c8 <|
    V_putI (tat ok_X9_back_0 (i := 28) (q := 52) rfl rfl) fk_X9_74 rfl rfl <|
    V_aload_n (tat ok_X9_back_0 (i := 29) (q := 53) rfl rfl) 0 rfl rfl <|
    V_aload_n (tat ok_X9_back_0 (i := 30) (q := 54) rfl rfl) 0 rfl rfl <|
    V_getR (tat ok_X9_back_0 (i := 31) (q := 57) rfl rfl) fk_X9_20 rfl rfl <|
    V_iload_n (tat ok_X9_back_0 (i := 32) (q := 58) rfl rfl) 1 rfl rfl <|
    (if c9 : a1 < 0 ∨ 2 ≤ Int32.toNatClampNeg a1 then ((jx (P := oP P) kk (Eq.trans (if_neg c7) (Eq.trans (if_neg c8) (if_pos c9))))).elim else V_iald (tat ok_X9_back_0 (i := 33) (q := 59) rfl rfl) rfl c9 <|
    V_putI (tat ok_X9_back_0 (i := 34) (q := 62) rfl rfl) fk_X9_77 rfl rfl <|
    V_aload_n (tat ok_X9_back_0 (i := 35) (q := 63) rfl rfl) 0 rfl rfl <|
    V_getL (tat ok_X9_back_0 (i := 36) (q := 66) rfl rfl) fk_X9_80 rfl <|
    V_cs1 (ct_X9_many (u2 (u2 I 33 0 (I 36 (Int32.toNatClampNeg a1))) 33 1 ((u2 I 33 0 (I 36 (Int32.toNatClampNeg a1))) 37 (Int32.toNatClampNeg a1))) (u2 L 33 2 (L 35 (Int32.toNatClampNeg a1))) ((u2 L 33 2 (L 35 (Int32.toNatClampNeg a1))) 33 2) ) mo_X9_many (tat ok_X9_back_0 (i := 37) (q := 69) rfl rfl) ml_X9_220 ⟨(Nat.le_of_ble_eq_true rfl), (Nat.le_of_ble_eq_true rfl)⟩ ⟨(Nat.le_of_ble_eq_true rfl), (Nat.le_of_ble_eq_true rfl)⟩ (Nat.le_of_ble_eq_true rfl) <|
    V_iret (tat ok_X9_back_0 (i := 38) (q := 70) rfl rfl) _ rfl (nar_int _) (hr ((F_X9_many ((u2 L 33 2 (L 35 (Int32.toNatClampNeg a1))) 33 2)), (u2 (u2 I 33 0 (I 36 (Int32.toNatClampNeg a1))) 33 1 ((u2 I 33 0 (I 36 (Int32.toNatClampNeg a1))) 37 (Int32.toNatClampNeg a1))), (u2 L 33 2 (L 35 (Int32.toNatClampNeg a1)))) (jx (P := oP P) kk (Eq.trans (if_neg c7) (Eq.trans (if_neg c8) (if_neg c9))))) ⟨(Nat.le_of_ble_eq_true rfl), (Nat.le_of_ble_eq_true rfl)⟩)))
def F_X9_back (I : WI) (L : WL) (a1 : Int32) : Option (Int32 × WI × WL) :=
  (Option.bind (F_X9_isImage a1) (fun v1 => (if v1 = 0 then some ((-1), I, L) else (Option.bind (F_X9_isKept I a1) (fun v3 => (if v3 = 0 then some ((-2), I, L) else (Option.bind (F_X9_isOfSize I a1) (fun v5 => (if v5 = 0 then (F_X9_back_32 (F_X9_endsPattern I) L a1) else (F_X9_back_32 I L a1))))))))))
theorem V_X9_back  {I : WI} {L : WL} {a1 : Int32}  {P : (Int32 × WI × WL) → Prop} {t : Tg} (hr : ∀ v, P v → t = (some (.int (p1 v)), ly0, (p1 (p2 v)), (p2 (p2 v)), R0)) (kk : oP P (F_X9_back I L a1)) : V (zM x_X9_back 3 0 0 t) 0 [(0, .ref 33), (1, .int a1)] [] ly0 I L R0 0 0 :=
  V_iload_n (tat ok_X9_back_0 (i := 0) (q := 1) rfl rfl) 1 rfl rfl <|
    oP_case (jx (P := oP P) kk rfl) (fun v1 e1 _ => V_cs1 (ct_X9_isImage I L a1  e1) mo_X9_isImage (tat ok_X9_back_0 (i := 1) (q := 4) rfl rfl) ml_X9_235 ⟨(Nat.le_of_ble_eq_true rfl), (Nat.le_of_ble_eq_true rfl)⟩ ⟨(Nat.le_of_ble_eq_true rfl), (Nat.le_of_ble_eq_true rfl)⟩ (Nat.le_of_ble_eq_true rfl) <|
    V_if_ne (tat ok_X9_back_0 (i := 2) (q := 7) rfl rfl) rfl (fun c2 => V_aload_n (tat ok_X9_back_0 (i := 5) (q := 10) rfl rfl) 0 rfl rfl <|
    V_iload_n (tat ok_X9_back_0 (i := 6) (q := 11) rfl rfl) 1 rfl rfl <|
    oP_case (jx (P := oP P) kk (Eq.trans (ob e1) (if_neg c2))) (fun v3 e3 _ => V_cv1 (ct_X9_isKept I L a1  e3) mo_X9_isKept (tat ok_X9_back_0 (i := 7) (q := 14) rfl rfl) ml_X9_239 rfl ⟨by decide, _, rfl, rfl⟩ ⟨(Nat.le_of_ble_eq_true rfl), (Nat.le_of_ble_eq_true rfl)⟩ ⟨(Nat.le_of_ble_eq_true rfl), (Nat.le_of_ble_eq_true rfl)⟩ (Nat.le_of_ble_eq_true rfl) <|
    V_if_ne (tat ok_X9_back_0 (i := 8) (q := 17) rfl rfl) rfl (fun c4 => V_aload_n (tat ok_X9_back_0 (i := 11) (q := 21) rfl rfl) 0 rfl rfl <|
    V_iload_n (tat ok_X9_back_0 (i := 12) (q := 22) rfl rfl) 1 rfl rfl <|
    oP_case (jx (P := oP P) kk (Eq.trans (ob e1) (Eq.trans (if_neg c2) (Eq.trans (ob e3) (if_neg c4))))) (fun v5 e5 _ => V_cv1 (ct_X9_isOfSize I L a1  e5) mo_X9_isOfSize (tat ok_X9_back_0 (i := 13) (q := 25) rfl rfl) ml_X9_242 rfl ⟨by decide, _, rfl, rfl⟩ ⟨(Nat.le_of_ble_eq_true rfl), (Nat.le_of_ble_eq_true rfl)⟩ ⟨(Nat.le_of_ble_eq_true rfl), (Nat.le_of_ble_eq_true rfl)⟩ (Nat.le_of_ble_eq_true rfl) <|
    V_if_ne (tat ok_X9_back_0 (i := 14) (q := 28) rfl rfl) rfl (fun c6 => V_X9_back_32  hr (jx (P := oP P) kk (Eq.trans (ob e1) (Eq.trans (if_neg c2) (Eq.trans (ob e3) (Eq.trans (if_neg c4) (Eq.trans (ob e5) (if_neg c6)))))))) (fun c6 => V_aload_n (tat ok_X9_back_0 (i := 15) (q := 29) rfl rfl) 0 rfl rfl <|
    V_cv0v (ct_X9_endsPattern I L  ) mo_X9_endsPattern (tat ok_X9_back_0 (i := 16) (q := 32) rfl rfl) ml_X9_314 rfl ⟨by decide, _, rfl, rfl⟩ ⟨(Nat.le_of_ble_eq_true rfl), (Nat.le_of_ble_eq_true rfl)⟩ ⟨(Nat.le_of_ble_eq_true rfl), (Nat.le_of_ble_eq_true rfl)⟩ (Nat.le_of_ble_eq_true rfl) <|
    V_X9_back_32  hr (jx (P := oP P) kk (Eq.trans (ob e1) (Eq.trans (if_neg c2) (Eq.trans (ob e3) (Eq.trans (if_neg c4) (Eq.trans (ob e5) (if_pos c6)))))))))) (fun c4 => V_bipush (tat ok_X9_back_0 (i := 9) (q := 19) rfl rfl) bp_m2 <|
    V_iret (tat ok_X9_back_0 (i := 10) (q := 20) rfl rfl) _ rfl (nar_int _) (hr ((-2), I, L) (jx (P := oP P) kk (Eq.trans (ob e1) (Eq.trans (if_neg c2) (Eq.trans (ob e3) (if_pos c4)))))) ⟨(Nat.le_of_ble_eq_true rfl), (Nat.le_of_ble_eq_true rfl)⟩))) (fun c2 => V_iconst (tat ok_X9_back_0 (i := 3) (q := 8) rfl rfl) ic_m1 <|
    V_iret (tat ok_X9_back_0 (i := 4) (q := 9) rfl rfl) _ rfl (nar_int _) (hr ((-1), I, L) (jx (P := oP P) kk (Eq.trans (ob e1) (if_pos c2)))) ⟨(Nat.le_of_ble_eq_true rfl), (Nat.le_of_ble_eq_true rfl)⟩))
theorem ct_X9_back  (I : WI) (L : WL) (a1 : Int32)  {v : (Int32 × WI × WL)} (h : (F_X9_back I L a1) = some v) : Ct x_X9_back 3 [.ref 33, .int a1] ly0 I L R0 0 0 (some (.int (p1 v)), ly0, (p1 (p2 v)), (p2 (p2 v)), R0) :=
  Ct_of_V mo_X9_back.1 (Nat.le_of_ble_eq_true rfl) (V_X9_back (P := fun x => x = v)  (fun _ e => by rw [e]) (by rw [h]; exact rfl))
def F_X9_isSheet_29 (a0 : Int32) (a1 : Int32) (s0 : Int32) : Int32 :=
  s0
theorem V_X9_isSheet_29  {I : WI} {L : WL} {a0 : Int32} {a1 : Int32} {s0 : Int32} {P : Int32 → Prop} {t : Tg} (hs0 : bz s0 = s0) (hr : ∀ v, P v → t = (some (.int v), ly0, I, L, R0)) (kk : P (F_X9_isSheet_29 a0 a1 s0)) : V (zM x_X9_isSheet 2 0 0 t) 29 [(0, .int a0), (1, .int a1)] [.int s0] ly0 I L R0 0 0 :=
  V_iret (tat ok_X9_isSheet_0 (i := 15) (q := 30) rfl rfl) _ rfl (bz_nf hs0).1 (hr s0 (jx (P := P) kk rfl)) ⟨(Nat.le_of_ble_eq_true rfl), (Nat.le_of_ble_eq_true rfl)⟩
def F_X9_isSheet_28 (a0 : Int32) (a1 : Int32) : Int32 :=
  (F_X9_isSheet_29 a0 a1 0)
theorem V_X9_isSheet_28  {I : WI} {L : WL} {a0 : Int32} {a1 : Int32}  {P : Int32 → Prop} {t : Tg} (hr : ∀ v, P v → t = (some (.int v), ly0, I, L, R0)) (kk : P (F_X9_isSheet_28 a0 a1)) : V (zM x_X9_isSheet 2 0 0 t) 28 [(0, .int a0), (1, .int a1)] [] ly0 I L R0 0 0 :=
  V_iconst (tat ok_X9_isSheet_0 (i := 14) (q := 29) rfl rfl) ic_0 <|
    V_X9_isSheet_29 rfl hr (jx (P := P) kk rfl)
def F_X9_isSheet (a0 : Int32) (a1 : Int32) : Int32 :=
  (if (F_X9_in (Int32.toInt64 a0) 0 3) = 0 then (F_X9_isSheet_28 a0 a1) else (if (F_X9_in (Int32.toInt64 a1) 0 2) = 0 then (F_X9_isSheet_28 a0 a1) else (F_X9_isSheet_29 a0 a1 1)))
theorem V_X9_isSheet  {I : WI} {L : WL} {a0 : Int32} {a1 : Int32}  {P : Int32 → Prop} {t : Tg} (hr : ∀ v, P v → t = (some (.int v), ly0, I, L, R0)) (kk : P (F_X9_isSheet a0 a1)) : V (zM x_X9_isSheet 2 0 0 t) 0 [(0, .int a0), (1, .int a1)] [] ly0 I L R0 0 0 :=
  V_iload_n (tat ok_X9_isSheet_0 (i := 0) (q := 1) rfl rfl) 0 rfl rfl <|
    V_i2l (tat ok_X9_isSheet_0 (i := 1) (q := 2) rfl rfl) <|
    V_lconst (v := 0) (tat ok_X9_isSheet_0 (i := 2) (q := 3) rfl rfl) rfl <|
    V_ldc2 (tat ok_X9_isSheet_0 (i := 3) (q := 6) rfl rfl) (gw_in kl_X9_251 rfl) <|
    V_cs3 (ct_X9_in I L (Int32.toInt64 a0) 0 3 ) mo_X9_in (tat ok_X9_isSheet_0 (i := 4) (q := 9) rfl rfl) ml_X9_97 ⟨(Nat.le_of_ble_eq_true rfl), (Nat.le_of_ble_eq_true rfl)⟩ ⟨(Nat.le_of_ble_eq_true rfl), (Nat.le_of_ble_eq_true rfl)⟩ (Nat.le_of_ble_eq_true rfl) <|
    V_if_eq (tat ok_X9_isSheet_0 (i := 5) (q := 12) rfl rfl) rfl (fun c1 => V_X9_isSheet_28  hr (jx (P := P) kk (if_pos c1))) (fun c1 => V_iload_n (tat ok_X9_isSheet_0 (i := 6) (q := 13) rfl rfl) 1 rfl rfl <|
    V_i2l (tat ok_X9_isSheet_0 (i := 7) (q := 14) rfl rfl) <|
    V_lconst (v := 0) (tat ok_X9_isSheet_0 (i := 8) (q := 15) rfl rfl) rfl <|
    V_ldc2 (tat ok_X9_isSheet_0 (i := 9) (q := 18) rfl rfl) (gw_in kl_X9_189 rfl) <|
    V_cs3 (ct_X9_in I L (Int32.toInt64 a1) 0 2 ) mo_X9_in (tat ok_X9_isSheet_0 (i := 10) (q := 21) rfl rfl) ml_X9_97 ⟨(Nat.le_of_ble_eq_true rfl), (Nat.le_of_ble_eq_true rfl)⟩ ⟨(Nat.le_of_ble_eq_true rfl), (Nat.le_of_ble_eq_true rfl)⟩ (Nat.le_of_ble_eq_true rfl) <|
    V_if_eq (tat ok_X9_isSheet_0 (i := 11) (q := 24) rfl rfl) rfl (fun c2 => V_X9_isSheet_28  hr (jx (P := P) kk (Eq.trans (if_neg c1) (if_pos c2)))) (fun c2 => V_iconst (tat ok_X9_isSheet_0 (i := 12) (q := 25) rfl rfl) ic_1 <|
    V_goto (tat ok_X9_isSheet_0 (i := 13) (q := 28) rfl rfl) rfl <|
    V_X9_isSheet_29 rfl hr (jx (P := P) kk (Eq.trans (if_neg c1) (if_neg c2)))))
theorem ct_X9_isSheet  (I : WI) (L : WL) (a0 : Int32) (a1 : Int32)  : Ct x_X9_isSheet 2 [.int a0, .int a1] ly0 I L R0 0 0 (some (.int (F_X9_isSheet a0 a1)), ly0, I, L, R0) :=
  Ct_of_V mo_X9_isSheet.1 (Nat.le_of_ble_eq_true rfl) (V_X9_isSheet (P := fun x => x = (F_X9_isSheet a0 a1))  (fun _ e => by rw [e]) rfl)
def F_X9_sheet_14 (I : WI) (a1 : Int32) (a2 : Int32) (a3 : Int32) : Option (Int32 × WI) :=
  some ((-1), I)
theorem V_X9_sheet_14  {I : WI} {L : WL} {a1 : Int32} {a2 : Int32} {a3 : Int32}  {P : (Int32 × WI) → Prop} {t : Tg} (hr : ∀ v, P v → t = (some (.int (p1 v)), ly0, (p2 v), L, R0)) (kk : oP P (F_X9_sheet_14 I a1 a2 a3)) : V (zM x_X9_sheet 3 0 0 t) 14 [(0, .ref 33), (1, .int a1), (2, .int a2), (3, .int a3)] [] ly0 I L R0 0 0 :=
  V_iconst (tat ok_X9_sheet_0 (i := 7) (q := 15) rfl rfl) ic_m1 <|
    V_iret (tat ok_X9_sheet_0 (i := 8) (q := 16) rfl rfl) _ rfl (nar_int _) (hr ((-1), I) (jx (P := oP P) kk rfl)) ⟨(Nat.le_of_ble_eq_true rfl), (Nat.le_of_ble_eq_true rfl)⟩
def F_X9_sheet_47_1 (I : WI) (a1 : Int32) (a2 : Int32) (a3 : Int32) (a4 : Int32) : Option WI :=
  (if ((40 * a1) + a4) < 0 ∨ 160 ≤ Int32.toNatClampNeg ((40 * a1) + a4) then none else some (u2 I 44 (Int32.toNatClampNeg ((40 * a1) + a4)) 0))
theorem V_X9_sheet_47_1  {I : WI} {L : WL} {a1 : Int32} {a2 : Int32} {a3 : Int32} {a4 : Int32}  {P : WI → Prop} {t : Tg} (hk : ∀ x : WI, P x → V (zM x_X9_sheet 3 0 0 t) 40 [(0, .ref 33), (1, .int a1), (2, .int a2), (3, .int a3), (4, .int (a4 + 1))] [] ly0 x L R0 0 0) (kk : oP P (F_X9_sheet_47_1 I a1 a2 a3 a4)) : V (zM x_X9_sheet 3 0 0 t) 47 [(0, .ref 33), (1, .int a1), (2, .int a2), (3, .int a3), (4, .int a4)] [] ly0 I L R0 0 0 :=
  V_aload_n (tat ok_X9_sheet_0 (i := 28) (q := 48) rfl rfl) 0 rfl rfl <|
    V_getR (tat ok_X9_sheet_0 (i := 29) (q := 51) rfl rfl) fk_X9_41 rfl rfl <|
    V_bipush (tat ok_X9_sheet_0 (i := 30) (q := 53) rfl rfl) bp_40 <|
    V_iload_n (tat ok_X9_sheet_0 (i := 31) (q := 54) rfl rfl) 1 rfl rfl <|
    V_imul (tat ok_X9_sheet_0 (i := 32) (q := 55) rfl rfl) <|
    V_iload (tat ok_X9_sheet_0 (i := 33) (q := 57) rfl rfl) 4 rfl <|
    V_iadd (tat ok_X9_sheet_0 (i := 34) (q := 58) rfl rfl) <|
    V_iconst (tat ok_X9_sheet_0 (i := 35) (q := 59) rfl rfl) ic_0 <|
    (if c6 : ((40 * a1) + a4) < 0 ∨ 160 ≤ Int32.toNatClampNeg ((40 * a1) + a4) then ((jx (P := oP P) kk (if_pos c6))).elim else V_iast (tat ok_X9_sheet_0 (i := 36) (q := 60) rfl rfl) rfl c6 <|
    V_iinc (v := (a4 + 1)) (lv' := [(4, .int (a4 + 1)), (0, .ref 33), (1, .int a1), (2, .int a2), (3, .int a3)]) (tat ok_X9_sheet_0 (i := 37) (q := 63) rfl rfl) 4 rfl (ia ic_1) (Nat.le_of_ble_eq_true rfl) rfl <|
    V_goto (tat ok_X9_sheet_0 (i := 38) (q := 66) rfl rfl) rfl <|
    V_pick [1, 2, 3, 4, 0] rfl (hk (u2 I 44 (Int32.toNatClampNeg ((40 * a1) + a4)) 0) (jx (P := oP P) kk (if_neg c6))))
def F_X9_sheet_66 (I : WI) (a1 : Int32) (a2 : Int32) (a3 : Int32) : Option (Int32 × WI) :=
  some (1, I)
theorem V_X9_sheet_66  {I : WI} {L : WL} {a1 : Int32} {a2 : Int32} {a3 : Int32}  {P : (Int32 × WI) → Prop} {t : Tg} (hr : ∀ v, P v → t = (some (.int (p1 v)), ly0, (p2 v), L, R0)) (kk : oP P (F_X9_sheet_66 I a1 a2 a3)) : V (zM x_X9_sheet 3 0 0 t) 66 [(0, .ref 33), (1, .int a1), (2, .int a2), (3, .int a3)] [] ly0 I L R0 0 0 :=
  V_iconst (tat ok_X9_sheet_0 (i := 39) (q := 67) rfl rfl) ic_1 <|
    V_iret (tat ok_X9_sheet_1 (i := 0) (q := 68) rfl rfl) _ rfl (nar_int _) (hr (1, I) (jx (P := oP P) kk rfl)) ⟨(Nat.le_of_ble_eq_true rfl), (Nat.le_of_ble_eq_true rfl)⟩
def F_X9_sheet_40 (I : WI) (a1 : Int32) (a2 : Int32) (a3 : Int32) (a4 : Int32) : Option (Int32 × WI) :=
  (frp0 (fun i x => (F_X9_sheet_47_1 x a1 a2 a3 i)) 40 (fu a4 40) a4 I).bind (fun q => (F_X9_sheet_66 (p2 q) a1 a2 a3))
theorem V_X9_sheet_40  {I : WI} {L : WL} {a1 : Int32} {a2 : Int32} {a3 : Int32} {a4 : Int32} {P : (Int32 × WI) → Prop} {t : Tg} (hb4 : bz a4 = a4) (hr : ∀ v, P v → t = (some (.int (p1 v)), ly0, (p2 v), L, R0)) (kk : oP P (F_X9_sheet_40 I a1 a2 a3 a4)) : V (zM x_X9_sheet 3 0 0 t) 40 [(0, .ref 33), (1, .int a1), (2, .int a2), (3, .int a3), (4, .int a4)] [] ly0 I L R0 0 0 :=
  V_frp0 (fun i x => (F_X9_sheet_47_1 x a1 a2 a3 i)) 40 (fun i x => V (zM x_X9_sheet 3 0 0 t) 40 [(0, .ref 33), (1, .int a1), (2, .int a2), (3, .int a3), (4, .int i)] [] ly0 x L R0 0 0) (fun i x => oP P ((F_X9_sheet_66 x a1 a2 a3))) (c := a4) (s := I) (fun i x kx kb => V_iload (tat ok_X9_sheet_0 (i := 25) (q := 42) rfl rfl) 4 rfl <|
    V_bipush (tat ok_X9_sheet_0 (i := 26) (q := 44) rfl rfl) bp_40 <|
    V_icmp_ge (tat ok_X9_sheet_0 (i := 27) (q := 47) rfl rfl) rfl (fun c0 => V_pick [0, 1, 2, 3] rfl (V_X9_sheet_66  hr (kx c0))) (fun c0 => V_X9_sheet_47_1 (P := (fun x => (fun i x => V (zM x_X9_sheet 3 0 0 t) 40 [(0, .ref 33), (1, .int a1), (2, .int a2), (3, .int a3), (4, .int i)] [] ly0 x L R0 0 0) (i + 1) x))  (fun _ e => e) (kb c0))) (oP_bind (f := fun q => _) kk)
def F_X9_sheet (I : WI) (a1 : Int32) (a2 : Int32) (a3 : Int32) : Option (Int32 × WI) :=
  (if (F_X9_isSheet a1 a2) = 0 then (F_X9_sheet_14 I a1 a2 a3) else (if a3 ≤ 40 then (if 0 ≤ a3 then (if a1 < 0 ∨ 4 ≤ Int32.toNatClampNeg a1 then none else (if a1 < 0 ∨ 4 ≤ Int32.toNatClampNeg a1 then none else (F_X9_sheet_40 (u2 (u2 I 42 (Int32.toNatClampNeg a1) a2) 43 (Int32.toNatClampNeg a1) a3) a1 a2 a3 0))) else some ((-14), I)) else (F_X9_sheet_14 I a1 a2 a3)))
theorem V_X9_sheet  {I : WI} {L : WL} {a1 : Int32} {a2 : Int32} {a3 : Int32}  {P : (Int32 × WI) → Prop} {t : Tg} (hr : ∀ v, P v → t = (some (.int (p1 v)), ly0, (p2 v), L, R0)) (kk : oP P (F_X9_sheet I a1 a2 a3)) : V (zM x_X9_sheet 3 0 0 t) 0 [(0, .ref 33), (1, .int a1), (2, .int a2), (3, .int a3)] [] ly0 I L R0 0 0 :=
  V_iload_n (tat ok_X9_sheet_0 (i := 0) (q := 1) rfl rfl) 1 rfl rfl <|
    V_iload_n (tat ok_X9_sheet_0 (i := 1) (q := 2) rfl rfl) 2 rfl rfl <|
    V_cs2 (ct_X9_isSheet I L a1 a2 ) mo_X9_isSheet (tat ok_X9_sheet_0 (i := 2) (q := 5) rfl rfl) ml_X9_333 ⟨(Nat.le_of_ble_eq_true rfl), (Nat.le_of_ble_eq_true rfl)⟩ ⟨(Nat.le_of_ble_eq_true rfl), (Nat.le_of_ble_eq_true rfl)⟩ (Nat.le_of_ble_eq_true rfl) <|
    V_if_eq (tat ok_X9_sheet_0 (i := 3) (q := 8) rfl rfl) rfl (fun c1 => V_X9_sheet_14  hr (jx (P := oP P) kk (if_pos c1))) (fun c1 => V_iload_n (tat ok_X9_sheet_0 (i := 4) (q := 9) rfl rfl) 3 rfl rfl <|
    V_bipush (tat ok_X9_sheet_0 (i := 5) (q := 11) rfl rfl) bp_40 <|
    V_icmp_le (tat ok_X9_sheet_0 (i := 6) (q := 14) rfl rfl) rfl (fun c2 => V_iload_n (tat ok_X9_sheet_0 (i := 9) (q := 17) rfl rfl) 3 rfl rfl <|
    V_if_ge (tat ok_X9_sheet_0 (i := 10) (q := 20) rfl rfl) rfl (fun c3 => V_aload_n (tat ok_X9_sheet_0 (i := 13) (q := 24) rfl rfl) 0 rfl rfl <|
    V_getR (tat ok_X9_sheet_0 (i := 14) (q := 27) rfl rfl) fk_X9_35 rfl rfl <|
    V_iload_n (tat ok_X9_sheet_0 (i := 15) (q := 28) rfl rfl) 1 rfl rfl <|
    V_iload_n (tat ok_X9_sheet_0 (i := 16) (q := 29) rfl rfl) 2 rfl rfl <|
    (if c4 : a1 < 0 ∨ 4 ≤ Int32.toNatClampNeg a1 then ((jx (P := oP P) kk (Eq.trans (if_neg c1) (Eq.trans (if_pos c2) (Eq.trans (if_pos c3) (if_pos c4)))))).elim else V_iast (tat ok_X9_sheet_0 (i := 17) (q := 30) rfl rfl) rfl c4 <|
    V_aload_n (tat ok_X9_sheet_0 (i := 18) (q := 31) rfl rfl) 0 rfl rfl <|
    V_getR (tat ok_X9_sheet_0 (i := 19) (q := 34) rfl rfl) fk_X9_38 rfl rfl <|
    V_iload_n (tat ok_X9_sheet_0 (i := 20) (q := 35) rfl rfl) 1 rfl rfl <|
    V_iload_n (tat ok_X9_sheet_0 (i := 21) (q := 36) rfl rfl) 3 rfl rfl <|
    (if c5 : a1 < 0 ∨ 4 ≤ Int32.toNatClampNeg a1 then ((jx (P := oP P) kk (Eq.trans (if_neg c1) (Eq.trans (if_pos c2) (Eq.trans (if_pos c3) (Eq.trans (if_neg c4) (if_pos c5))))))).elim else V_iast (tat ok_X9_sheet_0 (i := 22) (q := 37) rfl rfl) rfl c5 <|
    V_iconst (tat ok_X9_sheet_0 (i := 23) (q := 38) rfl rfl) ic_0 <|
    V_istore (lv' := [(4, .int 0), (0, .ref 33), (1, .int a1), (2, .int a2), (3, .int a3)]) (tat ok_X9_sheet_0 (i := 24) (q := 40) rfl rfl) (Nat.le_of_ble_eq_true rfl) rfl <|
    V_pick [1, 2, 3, 4, 0] rfl (V_X9_sheet_40 rfl hr (jx (P := oP P) kk (Eq.trans (if_neg c1) (Eq.trans (if_pos c2) (Eq.trans (if_pos c3) (Eq.trans (if_neg c4) (if_neg c5)))))))))) (fun c3 => V_bipush (tat ok_X9_sheet_0 (i := 11) (q := 22) rfl rfl) bp_m14 <|
    V_iret (tat ok_X9_sheet_0 (i := 12) (q := 23) rfl rfl) _ rfl (nar_int _) (hr ((-14), I) (jx (P := oP P) kk (Eq.trans (if_neg c1) (Eq.trans (if_pos c2) (if_neg c3))))) ⟨(Nat.le_of_ble_eq_true rfl), (Nat.le_of_ble_eq_true rfl)⟩)) (fun c2 => V_X9_sheet_14  hr (jx (P := oP P) kk (Eq.trans (if_neg c1) (if_neg c2)))))
theorem ct_X9_sheet  (I : WI) (L : WL) (a1 : Int32) (a2 : Int32) (a3 : Int32)  {v : (Int32 × WI)} (h : (F_X9_sheet I a1 a2 a3) = some v) : Ct x_X9_sheet 3 [.ref 33, .int a1, .int a2, .int a3] ly0 I L R0 0 0 (some (.int (p1 v)), ly0, (p2 v), L, R0) :=
  Ct_of_V mo_X9_sheet.1 (Nat.le_of_ble_eq_true rfl) (V_X9_sheet (P := fun x => x = v)  (fun _ e => by rw [e]) (by rw [h]; exact rfl))
def F_X9_lay_85 (I : WI) (a1 : Int32) (a2 : Int32) (a3 : Int32) (s0 : Int32) (s1 : Int32) : Option (Int32 × WI) :=
  (if s1 < 0 ∨ 160 ≤ Int32.toNatClampNeg s1 then none else some (1, (u2 I 44 (Int32.toNatClampNeg s1) s0)))
theorem V_X9_lay_85  {I : WI} {L : WL} {a1 : Int32} {a2 : Int32} {a3 : Int32} {s0 : Int32} {s1 : Int32} {P : (Int32 × WI) → Prop} {t : Tg} (hr : ∀ v, P v → t = (some (.int (p1 v)), ly0, (p2 v), L, R0)) (kk : oP P (F_X9_lay_85 I a1 a2 a3 s0 s1)) : V (zM x_X9_lay 3 0 0 t) 85 [(0, .ref 33), (1, .int a1), (2, .int a2), (3, .int a3)] [.int s0, .int s1, .ref 44] ly0 I L R0 0 0 :=
  (if c8 : s1 < 0 ∨ 160 ≤ Int32.toNatClampNeg s1 then ((jx (P := oP P) kk (if_pos c8))).elim else V_iast (tat ok_X9_lay_1 (i := 13) (q := 86) rfl rfl) rfl c8 <|
    V_iconst (tat ok_X9_lay_1 (i := 14) (q := 87) rfl rfl) ic_1 <|
    V_iret (tat ok_X9_lay_1 (i := 15) (q := 88) rfl rfl) _ rfl (nar_int _) (hr (1, (u2 I 44 (Int32.toNatClampNeg s1) s0)) (jx (P := oP P) kk (if_neg c8))) ⟨(Nat.le_of_ble_eq_true rfl), (Nat.le_of_ble_eq_true rfl)⟩)
def F_X9_lay (I : WI) (a1 : Int32) (a2 : Int32) (a3 : Int32) : Option (Int32 × WI) :=
  (if (F_X9_isSheet a1 0) = 0 then some ((-1), I) else (if a1 < 0 ∨ 4 ≤ Int32.toNatClampNeg a1 then none else (if (I 42 (Int32.toNatClampNeg a1)) = (-4) then some ((-11), I) else (if a1 < 0 ∨ 4 ≤ Int32.toNatClampNeg a1 then none else (if (F_X9_in (Int32.toInt64 a2) 0 (Int32.toInt64 ((I 43 (Int32.toNatClampNeg a1)) - 1))) = 0 then some ((-12), I) else (if a1 < 0 ∨ 4 ≤ Int32.toNatClampNeg a1 then none else (if (I 42 (Int32.toNatClampNeg a1)) = 0 then (F_X9_lay_85 I a1 a2 a3 (Int8.toInt32 (Int32.toInt8 a3)) ((40 * a1) + a2)) else (if a1 < 0 ∨ 4 ≤ Int32.toNatClampNeg a1 then none else (if (I 42 (Int32.toNatClampNeg a1)) = 1 then (F_X9_lay_85 I a1 a2 a3 (Int16.toInt32 (Int32.toInt16 a3)) ((40 * a1) + a2)) else (F_X9_lay_85 I a1 a2 a3 a3 ((40 * a1) + a2)))))))))))
theorem V_X9_lay  {I : WI} {L : WL} {a1 : Int32} {a2 : Int32} {a3 : Int32}  {P : (Int32 × WI) → Prop} {t : Tg} (hr : ∀ v, P v → t = (some (.int (p1 v)), ly0, (p2 v), L, R0)) (kk : oP P (F_X9_lay I a1 a2 a3)) : V (zM x_X9_lay 3 0 0 t) 0 [(0, .ref 33), (1, .int a1), (2, .int a2), (3, .int a3)] [] ly0 I L R0 0 0 :=
  V_iload_n (tat ok_X9_lay_0 (i := 0) (q := 1) rfl rfl) 1 rfl rfl <|
    V_iconst (tat ok_X9_lay_0 (i := 1) (q := 2) rfl rfl) ic_0 <|
    V_cs2 (ct_X9_isSheet I L a1 0 ) mo_X9_isSheet (tat ok_X9_lay_0 (i := 2) (q := 5) rfl rfl) ml_X9_333 ⟨(Nat.le_of_ble_eq_true rfl), (Nat.le_of_ble_eq_true rfl)⟩ ⟨(Nat.le_of_ble_eq_true rfl), (Nat.le_of_ble_eq_true rfl)⟩ (Nat.le_of_ble_eq_true rfl) <|
    V_if_ne (tat ok_X9_lay_0 (i := 3) (q := 8) rfl rfl) rfl (fun c1 => V_aload_n (tat ok_X9_lay_0 (i := 6) (q := 11) rfl rfl) 0 rfl rfl <|
    V_getR (tat ok_X9_lay_0 (i := 7) (q := 14) rfl rfl) fk_X9_35 rfl rfl <|
    V_iload_n (tat ok_X9_lay_0 (i := 8) (q := 15) rfl rfl) 1 rfl rfl <|
    (if c2 : a1 < 0 ∨ 4 ≤ Int32.toNatClampNeg a1 then ((jx (P := oP P) kk (Eq.trans (if_neg c1) (if_pos c2)))).elim else V_iald (tat ok_X9_lay_0 (i := 9) (q := 16) rfl rfl) rfl c2 <|
    V_bipush (tat ok_X9_lay_0 (i := 10) (q := 18) rfl rfl) bp_m4 <|
    V_icmp_ne (tat ok_X9_lay_0 (i := 11) (q := 21) rfl rfl) rfl (fun c3 => V_iload_n (tat ok_X9_lay_0 (i := 14) (q := 25) rfl rfl) 2 rfl rfl <|
    V_i2l (tat ok_X9_lay_0 (i := 15) (q := 26) rfl rfl) <|
    V_lconst (v := 0) (tat ok_X9_lay_0 (i := 16) (q := 27) rfl rfl) rfl <|
    V_aload_n (tat ok_X9_lay_0 (i := 17) (q := 28) rfl rfl) 0 rfl rfl <|
    V_getR (tat ok_X9_lay_0 (i := 18) (q := 31) rfl rfl) fk_X9_38 rfl rfl <|
    V_iload_n (tat ok_X9_lay_0 (i := 19) (q := 32) rfl rfl) 1 rfl rfl <|
    (if c4 : a1 < 0 ∨ 4 ≤ Int32.toNatClampNeg a1 then ((jx (P := oP P) kk (Eq.trans (if_neg c1) (Eq.trans (if_neg c2) (Eq.trans (if_neg c3) (if_pos c4)))))).elim else V_iald (tat ok_X9_lay_0 (i := 20) (q := 33) rfl rfl) rfl c4 <|
    V_iconst (tat ok_X9_lay_0 (i := 21) (q := 34) rfl rfl) ic_1 <|
    V_isub (tat ok_X9_lay_0 (i := 22) (q := 35) rfl rfl) <|
    V_i2l (tat ok_X9_lay_0 (i := 23) (q := 36) rfl rfl) <|
    V_cs3 (ct_X9_in I L (Int32.toInt64 a2) 0 (Int32.toInt64 ((I 43 (Int32.toNatClampNeg a1)) - 1)) ) mo_X9_in (tat ok_X9_lay_0 (i := 24) (q := 39) rfl rfl) ml_X9_97 ⟨(Nat.le_of_ble_eq_true rfl), (Nat.le_of_ble_eq_true rfl)⟩ ⟨(Nat.le_of_ble_eq_true rfl), (Nat.le_of_ble_eq_true rfl)⟩ (Nat.le_of_ble_eq_true rfl) <|
    V_if_ne (tat ok_X9_lay_0 (i := 25) (q := 42) rfl rfl) rfl (fun c5 => V_aload_n (tat ok_X9_lay_0 (i := 28) (q := 46) rfl rfl) 0 rfl rfl <|
    V_getR (tat ok_X9_lay_0 (i := 29) (q := 49) rfl rfl) fk_X9_41 rfl rfl <|
    V_bipush (tat ok_X9_lay_0 (i := 30) (q := 51) rfl rfl) bp_40 <|
    V_iload_n (tat ok_X9_lay_0 (i := 31) (q := 52) rfl rfl) 1 rfl rfl <|
    V_imul (tat ok_X9_lay_0 (i := 32) (q := 53) rfl rfl) <|
    V_iload_n (tat ok_X9_lay_0 (i := 33) (q := 54) rfl rfl) 2 rfl rfl <|
    V_iadd (tat ok_X9_lay_0 (i := 34) (q := 55) rfl rfl) <|
    V_aload_n (tat ok_X9_lay_0 (i := 35) (q := 56) rfl rfl) 0 rfl rfl <|
    V_getR (tat ok_X9_lay_0 (i := 36) (q := 59) rfl rfl) fk_X9_35 rfl rfl <|
    V_iload_n (tat ok_X9_lay_0 (i := 37) (q := 60) rfl rfl) 1 rfl rfl <|
    (if c6 : a1 < 0 ∨ 4 ≤ Int32.toNatClampNeg a1 then ((jx (P := oP P) kk (Eq.trans (if_neg c1) (Eq.trans (if_neg c2) (Eq.trans (if_neg c3) (Eq.trans (if_neg c4) (Eq.trans (if_neg c5) (if_pos c6)))))))).elim else V_iald (tat ok_X9_lay_0 (i := 38) (q := 61) rfl rfl) rfl c6 <|
    V_if_ne (tat ok_X9_lay_0 (i := 39) (q := 64) rfl rfl) rfl (fun c7 => V_aload_n (tat ok_X9_lay_1 (i := 3) (q := 70) rfl rfl) 0 rfl rfl <|
    V_getR (tat ok_X9_lay_1 (i := 4) (q := 73) rfl rfl) fk_X9_35 rfl rfl <|
    V_iload_n (tat ok_X9_lay_1 (i := 5) (q := 74) rfl rfl) 1 rfl rfl <|
    (if c9 : a1 < 0 ∨ 4 ≤ Int32.toNatClampNeg a1 then ((jx (P := oP P) kk (Eq.trans (if_neg c1) (Eq.trans (if_neg c2) (Eq.trans (if_neg c3) (Eq.trans (if_neg c4) (Eq.trans (if_neg c5) (Eq.trans (if_neg c6) (Eq.trans (if_neg c7) (if_pos c9)))))))))).elim else V_iald (tat ok_X9_lay_1 (i := 6) (q := 75) rfl rfl) rfl c9 <|
    V_iconst (tat ok_X9_lay_1 (i := 7) (q := 76) rfl rfl) ic_1 <|
    V_icmp_ne (tat ok_X9_lay_1 (i := 8) (q := 79) rfl rfl) rfl (fun c10 => V_iload_n (tat ok_X9_lay_1 (i := 12) (q := 85) rfl rfl) 3 rfl rfl <|
    V_X9_lay_85  hr (jx (P := oP P) kk (Eq.trans (if_neg c1) (Eq.trans (if_neg c2) (Eq.trans (if_neg c3) (Eq.trans (if_neg c4) (Eq.trans (if_neg c5) (Eq.trans (if_neg c6) (Eq.trans (if_neg c7) (Eq.trans (if_neg c9) (if_neg c10))))))))))) (fun c10 => V_iload_n (tat ok_X9_lay_1 (i := 9) (q := 80) rfl rfl) 3 rfl rfl <|
    V_i2s (tat ok_X9_lay_1 (i := 10) (q := 81) rfl rfl) <|
    V_goto (tat ok_X9_lay_1 (i := 11) (q := 84) rfl rfl) rfl <|
    V_X9_lay_85  hr (jx (P := oP P) kk (Eq.trans (if_neg c1) (Eq.trans (if_neg c2) (Eq.trans (if_neg c3) (Eq.trans (if_neg c4) (Eq.trans (if_neg c5) (Eq.trans (if_neg c6) (Eq.trans (if_neg c7) (Eq.trans (if_neg c9) (if_pos c10))))))))))))) (fun c7 => V_iload_n (tat ok_X9_lay_1 (i := 0) (q := 65) rfl rfl) 3 rfl rfl <|
    V_i2b (tat ok_X9_lay_1 (i := 1) (q := 66) rfl rfl) <|
    V_goto (tat ok_X9_lay_1 (i := 2) (q := 69) rfl rfl) rfl <|
    V_X9_lay_85  hr (jx (P := oP P) kk (Eq.trans (if_neg c1) (Eq.trans (if_neg c2) (Eq.trans (if_neg c3) (Eq.trans (if_neg c4) (Eq.trans (if_neg c5) (Eq.trans (if_neg c6) (if_pos c7))))))))))) (fun c5 => V_bipush (tat ok_X9_lay_0 (i := 26) (q := 44) rfl rfl) bp_m12 <|
    V_iret (tat ok_X9_lay_0 (i := 27) (q := 45) rfl rfl) _ rfl (nar_int _) (hr ((-12), I) (jx (P := oP P) kk (Eq.trans (if_neg c1) (Eq.trans (if_neg c2) (Eq.trans (if_neg c3) (Eq.trans (if_neg c4) (if_pos c5))))))) ⟨(Nat.le_of_ble_eq_true rfl), (Nat.le_of_ble_eq_true rfl)⟩))) (fun c3 => V_bipush (tat ok_X9_lay_0 (i := 12) (q := 23) rfl rfl) bp_m11 <|
    V_iret (tat ok_X9_lay_0 (i := 13) (q := 24) rfl rfl) _ rfl (nar_int _) (hr ((-11), I) (jx (P := oP P) kk (Eq.trans (if_neg c1) (Eq.trans (if_neg c2) (if_pos c3))))) ⟨(Nat.le_of_ble_eq_true rfl), (Nat.le_of_ble_eq_true rfl)⟩))) (fun c1 => V_iconst (tat ok_X9_lay_0 (i := 4) (q := 9) rfl rfl) ic_m1 <|
    V_iret (tat ok_X9_lay_0 (i := 5) (q := 10) rfl rfl) _ rfl (nar_int _) (hr ((-1), I) (jx (P := oP P) kk (if_pos c1))) ⟨(Nat.le_of_ble_eq_true rfl), (Nat.le_of_ble_eq_true rfl)⟩)
theorem ct_X9_lay  (I : WI) (L : WL) (a1 : Int32) (a2 : Int32) (a3 : Int32)  {v : (Int32 × WI)} (h : (F_X9_lay I a1 a2 a3) = some v) : Ct x_X9_lay 3 [.ref 33, .int a1, .int a2, .int a3] ly0 I L R0 0 0 (some (.int (p1 v)), ly0, (p2 v), L, R0) :=
  Ct_of_V mo_X9_lay.1 (Nat.le_of_ble_eq_true rfl) (V_X9_lay (P := fun x => x = v)  (fun _ e => by rw [e]) (by rw [h]; exact rfl))
def F_X9_read_21 (I : WI) (L : WL) (a1 : Int32) (a2 : Int32) (a3 : Int32) (a4 : Int32) : Option (Int32 × WI × WL) :=
  some ((-1), I, L)
theorem V_X9_read_21  {I : WI} {L : WL} {a1 : Int32} {a2 : Int32} {a3 : Int32} {a4 : Int32}  {P : (Int32 × WI × WL) → Prop} {t : Tg} (hr : ∀ v, P v → t = (some (.int (p1 v)), ly0, (p1 (p2 v)), (p2 (p2 v)), R0)) (kk : oP P (F_X9_read_21 I L a1 a2 a3 a4)) : V (zM x_X9_read 4 0 0 t) 21 [(0, .ref 33), (1, .int a1), (2, .int a2), (3, .int a3), (4, .int a4)] [] ly0 I L R0 0 0 :=
  V_iconst (tat ok_X9_read_0 (i := 10) (q := 22) rfl rfl) ic_m1 <|
    V_iret (tat ok_X9_read_0 (i := 11) (q := 23) rfl rfl) _ rfl (nar_int _) (hr ((-1), I, L) (jx (P := oP P) kk rfl)) ⟨(Nat.le_of_ble_eq_true rfl), (Nat.le_of_ble_eq_true rfl)⟩
def F_X9_read_126_2 (I : WI) (L : WL) (a1 : Int32) (a2 : Int32) (a3 : Int32) (a4 : Int32) (a6 : Int32) (a7 : Int32) (a8 : Int32) (s0 : Int32) : Option (Int32 ⊕ (Int32 × Int32)) :=
  some (.inr (s0, (a8 + 1)))
theorem V_X9_read_126_2  {I : WI} {L : WL} {a1 : Int32} {a2 : Int32} {a3 : Int32} {a4 : Int32} {a6 : Int32} {a7 : Int32} {a8 : Int32} {s0 : Int32} {P : (Int32 ⊕ (Int32 × Int32)) → Prop} {t : Tg} (he : ∀ x : Int32, P (.inl x) → V (zM x_X9_read 4 0 0 t) 134 [(0, .ref 33), (1, .int a1), (2, .int a2), (3, .int a3), (4, .int a4), (5, .int x), (6, .int a6), (7, .int a7)] [] ly0 I L R0 0 0) (hk : ∀ x : (Int32 × Int32), P (.inr x) → V (zM x_X9_read 4 0 0 t) 47 [(0, .ref 33), (1, .int a1), (2, .int a2), (3, .int a3), (4, .int a4), (5, .int (p1 x)), (6, .int a6), (7, .int a7), (8, .int (p2 x))] [] ly0 I L R0 0 0) (kk : oP P (F_X9_read_126_2 I L a1 a2 a3 a4 a6 a7 a8 s0)) : V (zM x_X9_read 4 0 0 t) 126 [(0, .ref 33), (1, .int a1), (2, .int a2), (3, .int a3), (4, .int a4), (6, .int a6), (7, .int a7), (8, .int a8)] [.int s0] ly0 I L R0 0 0 :=
  V_istore (lv' := [(5, .int s0), (0, .ref 33), (1, .int a1), (2, .int a2), (3, .int a3), (4, .int a4), (6, .int a6), (7, .int a7), (8, .int a8)]) (tat ok_X9_read_1 (i := 32) (q := 128) rfl rfl) (Nat.le_of_ble_eq_true rfl) rfl <|
    V_iinc (v := (a8 + 1)) (lv' := [(8, .int (a8 + 1)), (5, .int s0), (0, .ref 33), (1, .int a1), (2, .int a2), (3, .int a3), (4, .int a4), (6, .int a6), (7, .int a7)]) (tat ok_X9_read_1 (i := 33) (q := 131) rfl rfl) 8 rfl (ia ic_1) (Nat.le_of_ble_eq_true rfl) rfl <|
    V_goto (tat ok_X9_read_1 (i := 34) (q := 134) rfl rfl) rfl <|
    V_pick [2, 3, 4, 5, 6, 1, 7, 8, 0] rfl (hk (s0, (a8 + 1)) (jx (P := oP P) kk rfl))
def F_X9_read_121_2 (I : WI) (L : WL) (a1 : Int32) (a2 : Int32) (a3 : Int32) (a4 : Int32) (a6 : Int32) (a7 : Int32) (a8 : Int32) : Option (Int32 ⊕ (Int32 × Int32)) :=
  (F_X9_read_126_2 I L a1 a2 a3 a4 a6 a7 a8 2)
theorem V_X9_read_121_2  {I : WI} {L : WL} {a1 : Int32} {a2 : Int32} {a3 : Int32} {a4 : Int32} {a6 : Int32} {a7 : Int32} {a8 : Int32} {P : (Int32 ⊕ (Int32 × Int32)) → Prop} {t : Tg} (he : ∀ x : Int32, P (.inl x) → V (zM x_X9_read 4 0 0 t) 134 [(0, .ref 33), (1, .int a1), (2, .int a2), (3, .int a3), (4, .int a4), (5, .int x), (6, .int a6), (7, .int a7)] [] ly0 I L R0 0 0) (hk : ∀ x : (Int32 × Int32), P (.inr x) → V (zM x_X9_read 4 0 0 t) 47 [(0, .ref 33), (1, .int a1), (2, .int a2), (3, .int a3), (4, .int a4), (5, .int (p1 x)), (6, .int a6), (7, .int a7), (8, .int (p2 x))] [] ly0 I L R0 0 0) (kk : oP P (F_X9_read_121_2 I L a1 a2 a3 a4 a6 a7 a8)) : V (zM x_X9_read 4 0 0 t) 121 [(0, .ref 33), (1, .int a1), (2, .int a2), (3, .int a3), (4, .int a4), (6, .int a6), (7, .int a7), (8, .int a8)] [] ly0 I L R0 0 0 :=
  V_iconst (tat ok_X9_read_1 (i := 29) (q := 122) rfl rfl) ic_2 <|
    V_goto (tat ok_X9_read_1 (i := 30) (q := 125) rfl rfl) rfl <|
    V_X9_read_126_2  he hk (jx (P := oP P) kk rfl)
def F_X9_read_47_2 (I : WI) (L : WL) (a1 : Int32) (a2 : Int32) (a3 : Int32) (a4 : Int32) (a6 : Int32) (a7 : Int32) (a5 : Int32) (a8 : Int32) : Option (Int32 ⊕ (Int32 × Int32)) :=
  (if 2 ≤ a8 then some (.inl a5) else (if a5 = 0 then (if a1 < 0 ∨ 4 ≤ Int32.toNatClampNeg a1 then none else (if (I 42 (Int32.toNatClampNeg a1)) = (-4) then (F_X9_read_126_2 I L a1 a2 a3 a4 a6 a7 a8 1) else (if a1 < 0 ∨ 4 ≤ Int32.toNatClampNeg a1 then none else (if (I 42 (Int32.toNatClampNeg a1)) = a2 then (if (lg_cmp (((Int32.toInt64 a3) + (Int32.toInt64 (2 * a7))) + (Int32.toInt64 a8)) 0) < 0 then (F_X9_read_121_2 I L a1 a2 a3 a4 a6 a7 a8) else (if a1 < 0 ∨ 4 ≤ Int32.toNatClampNeg a1 then none else (if (lg_cmp (((Int32.toInt64 a3) + (Int32.toInt64 (2 * a7))) + (Int32.toInt64 a8)) (Int32.toInt64 (I 43 (Int32.toNatClampNeg a1)))) < 0 then (F_X9_read_126_2 I L a1 a2 a3 a4 a6 a7 a8 0) else (F_X9_read_121_2 I L a1 a2 a3 a4 a6 a7 a8)))) else (F_X9_read_126_2 I L a1 a2 a3 a4 a6 a7 a8 3))))) else some (.inl a5)))
theorem V_X9_read_47_2  {I : WI} {L : WL} {a1 : Int32} {a2 : Int32} {a3 : Int32} {a4 : Int32} {a6 : Int32} {a7 : Int32} {a5 : Int32} {a8 : Int32} {P : (Int32 ⊕ (Int32 × Int32)) → Prop} {t : Tg} (he : ∀ x : Int32, P (.inl x) → V (zM x_X9_read 4 0 0 t) 134 [(0, .ref 33), (1, .int a1), (2, .int a2), (3, .int a3), (4, .int a4), (5, .int x), (6, .int a6), (7, .int a7)] [] ly0 I L R0 0 0) (hk : ∀ x : (Int32 × Int32), P (.inr x) → V (zM x_X9_read 4 0 0 t) 47 [(0, .ref 33), (1, .int a1), (2, .int a2), (3, .int a3), (4, .int a4), (5, .int (p1 x)), (6, .int a6), (7, .int a7), (8, .int (p2 x))] [] ly0 I L R0 0 0) (kk : oP P (F_X9_read_47_2 I L a1 a2 a3 a4 a6 a7 a5 a8)) : V (zM x_X9_read 4 0 0 t) 47 [(0, .ref 33), (1, .int a1), (2, .int a2), (3, .int a3), (4, .int a4), (5, .int a5), (6, .int a6), (7, .int a7), (8, .int a8)] [] ly0 I L R0 0 0 :=
  V_iload (tat ok_X9_read_0 (i := 25) (q := 49) rfl rfl) 8 rfl <|
    V_iconst (tat ok_X9_read_0 (i := 26) (q := 50) rfl rfl) ic_2 <|
    V_icmp_ge (tat ok_X9_read_0 (i := 27) (q := 53) rfl rfl) rfl (fun c5 => V_pick [0, 1, 2, 3, 4, 5, 6, 7] rfl (he a5 (jx (P := oP P) kk (if_pos c5)))) (fun c5 => V_iload (tat ok_X9_read_0 (i := 28) (q := 55) rfl rfl) 5 rfl <|
    V_if_ne (tat ok_X9_read_0 (i := 29) (q := 58) rfl rfl) rfl (fun c6 => V_pick [0, 1, 2, 3, 4, 5, 6, 7] rfl (he a5 (jx (P := oP P) kk (Eq.trans (if_neg c5) (if_neg c6))))) (fun c6 => V_iload_n (tat ok_X9_read_0 (i := 30) (q := 59) rfl rfl) 3 rfl rfl <|
    V_i2l (tat ok_X9_read_0 (i := 31) (q := 60) rfl rfl) <|
    V_iconst (tat ok_X9_read_0 (i := 32) (q := 61) rfl rfl) ic_2 <|
    V_iload (tat ok_X9_read_0 (i := 33) (q := 63) rfl rfl) 7 rfl <|
    V_imul (tat ok_X9_read_0 (i := 34) (q := 64) rfl rfl) <|
    V_i2l (tat ok_X9_read_0 (i := 35) (q := 65) rfl rfl) <|
    V_ladd (tat ok_X9_read_0 (i := 36) (q := 66) rfl rfl) <|
    V_iload (tat ok_X9_read_0 (i := 37) (q := 68) rfl rfl) 8 rfl <|
    V_i2l (tat ok_X9_read_0 (i := 38) (q := 69) rfl rfl) <|
    V_ladd (tat ok_X9_read_0 (i := 39) (q := 70) rfl rfl) <|
    V_lstore (lv' := [(9, .long (((Int32.toInt64 a3) + (Int32.toInt64 (2 * a7))) + (Int32.toInt64 a8))), (0, .ref 33), (1, .int a1), (2, .int a2), (3, .int a3), (4, .int a4), (5, .int a5), (6, .int a6), (7, .int a7), (8, .int a8)]) (tat ok_X9_read_1 (i := 0) (q := 72) rfl rfl) (Nat.le_of_ble_eq_true rfl) rfl <|
    V_aload_n (tat ok_X9_read_1 (i := 1) (q := 73) rfl rfl) 1 rfl rfl <|
    V_getR (tat ok_X9_read_1 (i := 2) (q := 76) rfl rfl) fk_X9_35 rfl rfl <|
    V_iload_n (tat ok_X9_read_1 (i := 3) (q := 77) rfl rfl) 2 rfl rfl <|
    (if c7 : a1 < 0 ∨ 4 ≤ Int32.toNatClampNeg a1 then ((jx (P := oP P) kk (Eq.trans (if_neg c5) (Eq.trans (if_pos c6) (if_pos c7))))).elim else V_iald (tat ok_X9_read_1 (i := 4) (q := 78) rfl rfl) rfl c7 <|
    V_bipush (tat ok_X9_read_1 (i := 5) (q := 80) rfl rfl) bp_m4 <|
    V_icmp_ne (tat ok_X9_read_1 (i := 6) (q := 83) rfl rfl) rfl (fun c8 => V_aload_n (tat ok_X9_read_1 (i := 9) (q := 88) rfl rfl) 1 rfl rfl <|
    V_getR (tat ok_X9_read_1 (i := 10) (q := 91) rfl rfl) fk_X9_35 rfl rfl <|
    V_iload_n (tat ok_X9_read_1 (i := 11) (q := 92) rfl rfl) 2 rfl rfl <|
    (if c9 : a1 < 0 ∨ 4 ≤ Int32.toNatClampNeg a1 then ((jx (P := oP P) kk (Eq.trans (if_neg c5) (Eq.trans (if_pos c6) (Eq.trans (if_neg c7) (Eq.trans (if_neg c8) (if_pos c9))))))).elim else V_iald (tat ok_X9_read_1 (i := 12) (q := 93) rfl rfl) rfl c9 <|
    V_iload_n (tat ok_X9_read_1 (i := 13) (q := 94) rfl rfl) 3 rfl rfl <|
    V_icmp_eq (tat ok_X9_read_1 (i := 14) (q := 97) rfl rfl) rfl (fun c10 => V_lload (tat ok_X9_read_1 (i := 17) (q := 103) rfl rfl) 0 rfl <|
    V_lconst (v := 0) (tat ok_X9_read_1 (i := 18) (q := 104) rfl rfl) rfl <|
    V_lcmp (tat ok_X9_read_1 (i := 19) (q := 105) rfl rfl) <|
    V_if_lt (tat ok_X9_read_1 (i := 20) (q := 108) rfl rfl) rfl (fun c11 => V_pick [1, 2, 3, 4, 5, 7, 8, 9] rfl (V_X9_read_121_2  he hk (jx (P := oP P) kk (Eq.trans (if_neg c5) (Eq.trans (if_pos c6) (Eq.trans (if_neg c7) (Eq.trans (if_neg c8) (Eq.trans (if_neg c9) (Eq.trans (if_pos c10) (if_pos c11)))))))))) (fun c11 => V_lload (tat ok_X9_read_1 (i := 21) (q := 110) rfl rfl) 0 rfl <|
    V_aload_n (tat ok_X9_read_1 (i := 22) (q := 111) rfl rfl) 1 rfl rfl <|
    V_getR (tat ok_X9_read_1 (i := 23) (q := 114) rfl rfl) fk_X9_38 rfl rfl <|
    V_iload_n (tat ok_X9_read_1 (i := 24) (q := 115) rfl rfl) 2 rfl rfl <|
    (if c12 : a1 < 0 ∨ 4 ≤ Int32.toNatClampNeg a1 then ((jx (P := oP P) kk (Eq.trans (if_neg c5) (Eq.trans (if_pos c6) (Eq.trans (if_neg c7) (Eq.trans (if_neg c8) (Eq.trans (if_neg c9) (Eq.trans (if_pos c10) (Eq.trans (if_neg c11) (if_pos c12)))))))))).elim else V_iald (tat ok_X9_read_1 (i := 25) (q := 116) rfl rfl) rfl c12 <|
    V_i2l (tat ok_X9_read_1 (i := 26) (q := 117) rfl rfl) <|
    V_lcmp (tat ok_X9_read_1 (i := 27) (q := 118) rfl rfl) <|
    V_if_lt (tat ok_X9_read_1 (i := 28) (q := 121) rfl rfl) rfl (fun c13 => V_iconst (tat ok_X9_read_1 (i := 31) (q := 126) rfl rfl) ic_0 <|
    V_pick [1, 2, 3, 4, 5, 7, 8, 9] rfl (V_X9_read_126_2  he hk (jx (P := oP P) kk (Eq.trans (if_neg c5) (Eq.trans (if_pos c6) (Eq.trans (if_neg c7) (Eq.trans (if_neg c8) (Eq.trans (if_neg c9) (Eq.trans (if_pos c10) (Eq.trans (if_neg c11) (Eq.trans (if_neg c12) (if_pos c13)))))))))))) (fun c13 => V_pick [1, 2, 3, 4, 5, 7, 8, 9] rfl (V_X9_read_121_2  he hk (jx (P := oP P) kk (Eq.trans (if_neg c5) (Eq.trans (if_pos c6) (Eq.trans (if_neg c7) (Eq.trans (if_neg c8) (Eq.trans (if_neg c9) (Eq.trans (if_pos c10) (Eq.trans (if_neg c11) (Eq.trans (if_neg c12) (if_neg c13))))))))))))))) (fun c10 => V_iconst (tat ok_X9_read_1 (i := 15) (q := 98) rfl rfl) ic_3 <|
    V_goto (tat ok_X9_read_1 (i := 16) (q := 101) rfl rfl) rfl <|
    V_pick [1, 2, 3, 4, 5, 7, 8, 9] rfl (V_X9_read_126_2  he hk (jx (P := oP P) kk (Eq.trans (if_neg c5) (Eq.trans (if_pos c6) (Eq.trans (if_neg c7) (Eq.trans (if_neg c8) (Eq.trans (if_neg c9) (if_neg c10))))))))))) (fun c8 => V_iconst (tat ok_X9_read_1 (i := 7) (q := 84) rfl rfl) ic_1 <|
    V_goto (tat ok_X9_read_1 (i := 8) (q := 87) rfl rfl) rfl <|
    V_pick [1, 2, 3, 4, 5, 7, 8, 9] rfl (V_X9_read_126_2  he hk (jx (P := oP P) kk (Eq.trans (if_neg c5) (Eq.trans (if_pos c6) (Eq.trans (if_neg c7) (if_pos c8))))))))))
def F_X9_read_184_1 (I : WI) (L : WL) (a1 : Int32) (a2 : Int32) (a3 : Int32) (a4 : Int32) (a5 : Int32) (a6 : Int32) (a7 : Int32) : Option (((Int32 × WI × WL) ⊕ (Int32 × Int32)) ⊕ (Int32 × Int32 × Int32)) :=
  some (.inr (a5, a6, (a7 + 1)))
theorem V_X9_read_184_1  {I : WI} {L : WL} {a1 : Int32} {a2 : Int32} {a3 : Int32} {a4 : Int32} {a5 : Int32} {a6 : Int32} {a7 : Int32} {P : (((Int32 × WI × WL) ⊕ (Int32 × Int32)) ⊕ (Int32 × Int32 × Int32)) → Prop} {t : Tg} (hr : ∀ v, P (.inl (.inl v)) → t = (some (.int (p1 v)), ly0, (p1 (p2 v)), (p2 (p2 v)), R0)) (he : ∀ x : (Int32 × Int32), P (.inl (.inr x)) → V (zM x_X9_read 4 0 0 t) 190 [(0, .ref 33), (1, .int a1), (2, .int a2), (3, .int a3), (4, .int a4), (5, .int (p1 x)), (6, .int (p2 x))] [] ly0 I L R0 0 0) (hk : ∀ x : (Int32 × Int32 × Int32), P (.inr x) → V (zM x_X9_read 4 0 0 t) 32 [(0, .ref 33), (1, .int a1), (2, .int a2), (3, .int a3), (4, .int a4), (5, .int (p1 x)), (6, .int (p1 (p2 x))), (7, .int (p2 (p2 x)))] [] ly0 I L R0 0 0) (kk : oP P (F_X9_read_184_1 I L a1 a2 a3 a4 a5 a6 a7)) : V (zM x_X9_read 4 0 0 t) 184 [(0, .ref 33), (1, .int a1), (2, .int a2), (3, .int a3), (4, .int a4), (5, .int a5), (6, .int a6), (7, .int a7)] [] ly0 I L R0 0 0 :=
  V_iinc (v := (a7 + 1)) (lv' := [(7, .int (a7 + 1)), (0, .ref 33), (1, .int a1), (2, .int a2), (3, .int a3), (4, .int a4), (5, .int a5), (6, .int a6)]) (tat ok_X9_read_2 (i := 25) (q := 187) rfl rfl) 7 rfl (ia ic_1) (Nat.le_of_ble_eq_true rfl) rfl <|
    V_goto (tat ok_X9_read_2 (i := 26) (q := 190) rfl rfl) rfl <|
    V_pick [1, 2, 3, 4, 5, 6, 7, 0] rfl (hk (a5, a6, (a7 + 1)) (jx (P := oP P) kk rfl))
def F_X9_read_134_1 (I : WI) (L : WL) (a1 : Int32) (a2 : Int32) (a3 : Int32) (a4 : Int32) (a5 : Int32) (a6 : Int32) (a7 : Int32) : Option (((Int32 × WI × WL) ⊕ (Int32 × Int32)) ⊕ (Int32 × Int32 × Int32)) :=
  (if a5 = 0 then (if (((40 * a1) + a3) + (2 * a7)) < 0 ∨ 160 ≤ Int32.toNatClampNeg (((40 * a1) + a3) + (2 * a7)) then none else (if ((((40 * a1) + a3) + (2 * a7)) + 1) < 0 ∨ 160 ≤ Int32.toNatClampNeg ((((40 * a1) + a3) + (2 * a7)) + 1) then none else (Option.bind (F_X9_isAct I (I 44 (Int32.toNatClampNeg (((40 * a1) + a3) + (2 * a7)))) (I 44 (Int32.toNatClampNeg ((((40 * a1) + a3) + (2 * a7)) + 1)))) (fun v17 => (if v17 = 0 then some (.inl (.inl (((-20) - a7), I, L))) else (F_X9_read_184_1 I L a1 a2 a3 a4 a5 (a6 + 1) a7)))))) else (F_X9_read_184_1 I L a1 a2 a3 a4 a5 a6 a7))
theorem V_X9_read_134_1  {I : WI} {L : WL} {a1 : Int32} {a2 : Int32} {a3 : Int32} {a4 : Int32} {a5 : Int32} {a6 : Int32} {a7 : Int32} {P : (((Int32 × WI × WL) ⊕ (Int32 × Int32)) ⊕ (Int32 × Int32 × Int32)) → Prop} {t : Tg} (hr : ∀ v, P (.inl (.inl v)) → t = (some (.int (p1 v)), ly0, (p1 (p2 v)), (p2 (p2 v)), R0)) (he : ∀ x : (Int32 × Int32), P (.inl (.inr x)) → V (zM x_X9_read 4 0 0 t) 190 [(0, .ref 33), (1, .int a1), (2, .int a2), (3, .int a3), (4, .int a4), (5, .int (p1 x)), (6, .int (p2 x))] [] ly0 I L R0 0 0) (hk : ∀ x : (Int32 × Int32 × Int32), P (.inr x) → V (zM x_X9_read 4 0 0 t) 32 [(0, .ref 33), (1, .int a1), (2, .int a2), (3, .int a3), (4, .int a4), (5, .int (p1 x)), (6, .int (p1 (p2 x))), (7, .int (p2 (p2 x)))] [] ly0 I L R0 0 0) (kk : oP P (F_X9_read_134_1 I L a1 a2 a3 a4 a5 a6 a7)) : V (zM x_X9_read 4 0 0 t) 134 [(0, .ref 33), (1, .int a1), (2, .int a2), (3, .int a3), (4, .int a4), (5, .int a5), (6, .int a6), (7, .int a7)] [] ly0 I L R0 0 0 :=
  V_iload (tat ok_X9_read_1 (i := 35) (q := 136) rfl rfl) 5 rfl <|
    V_if_ne (tat ok_X9_read_1 (i := 36) (q := 139) rfl rfl) rfl (fun c14 => V_X9_read_184_1  hr he hk (jx (P := oP P) kk (if_neg c14))) (fun c14 => V_bipush (tat ok_X9_read_1 (i := 37) (q := 141) rfl rfl) bp_40 <|
    V_iload_n (tat ok_X9_read_1 (i := 38) (q := 142) rfl rfl) 1 rfl rfl <|
    V_imul (tat ok_X9_read_1 (i := 39) (q := 143) rfl rfl) <|
    V_iload_n (tat ok_X9_read_2 (i := 0) (q := 144) rfl rfl) 3 rfl rfl <|
    V_iadd (tat ok_X9_read_2 (i := 1) (q := 145) rfl rfl) <|
    V_iconst (tat ok_X9_read_2 (i := 2) (q := 146) rfl rfl) ic_2 <|
    V_iload (tat ok_X9_read_2 (i := 3) (q := 148) rfl rfl) 7 rfl <|
    V_imul (tat ok_X9_read_2 (i := 4) (q := 149) rfl rfl) <|
    V_iadd (tat ok_X9_read_2 (i := 5) (q := 150) rfl rfl) <|
    V_istore (lv' := [(8, .int (((40 * a1) + a3) + (2 * a7))), (0, .ref 33), (1, .int a1), (2, .int a2), (3, .int a3), (4, .int a4), (5, .int a5), (6, .int a6), (7, .int a7)]) (tat ok_X9_read_2 (i := 6) (q := 152) rfl rfl) (Nat.le_of_ble_eq_true rfl) rfl <|
    V_aload_n (tat ok_X9_read_2 (i := 7) (q := 153) rfl rfl) 1 rfl rfl <|
    V_aload_n (tat ok_X9_read_2 (i := 8) (q := 154) rfl rfl) 1 rfl rfl <|
    V_getR (tat ok_X9_read_2 (i := 9) (q := 157) rfl rfl) fk_X9_41 rfl rfl <|
    V_iload (tat ok_X9_read_2 (i := 10) (q := 159) rfl rfl) 0 rfl <|
    (if c15 : (((40 * a1) + a3) + (2 * a7)) < 0 ∨ 160 ≤ Int32.toNatClampNeg (((40 * a1) + a3) + (2 * a7)) then ((jx (P := oP P) kk (Eq.trans (if_pos c14) (if_pos c15)))).elim else V_iald (tat ok_X9_read_2 (i := 11) (q := 160) rfl rfl) rfl c15 <|
    V_aload_n (tat ok_X9_read_2 (i := 12) (q := 161) rfl rfl) 1 rfl rfl <|
    V_getR (tat ok_X9_read_2 (i := 13) (q := 164) rfl rfl) fk_X9_41 rfl rfl <|
    V_iload (tat ok_X9_read_2 (i := 14) (q := 166) rfl rfl) 0 rfl <|
    V_iconst (tat ok_X9_read_2 (i := 15) (q := 167) rfl rfl) ic_1 <|
    V_iadd (tat ok_X9_read_2 (i := 16) (q := 168) rfl rfl) <|
    (if c16 : ((((40 * a1) + a3) + (2 * a7)) + 1) < 0 ∨ 160 ≤ Int32.toNatClampNeg ((((40 * a1) + a3) + (2 * a7)) + 1) then ((jx (P := oP P) kk (Eq.trans (if_pos c14) (Eq.trans (if_neg c15) (if_pos c16))))).elim else V_iald (tat ok_X9_read_2 (i := 17) (q := 169) rfl rfl) rfl c16 <|
    oP_case (jx (P := oP P) kk (Eq.trans (if_pos c14) (Eq.trans (if_neg c15) (if_neg c16)))) (fun v17 e17 _ => V_cv2 (ct_X9_isAct I L (I 44 (Int32.toNatClampNeg (((40 * a1) + a3) + (2 * a7)))) (I 44 (Int32.toNatClampNeg ((((40 * a1) + a3) + (2 * a7)) + 1)))  e17) mo_X9_isAct (tat ok_X9_read_2 (i := 18) (q := 172) rfl rfl) ml_X9_214 rfl ⟨by decide, _, rfl, rfl⟩ ⟨(Nat.le_of_ble_eq_true rfl), (Nat.le_of_ble_eq_true rfl)⟩ ⟨(Nat.le_of_ble_eq_true rfl), (Nat.le_of_ble_eq_true rfl)⟩ (Nat.le_of_ble_eq_true rfl) <|
    V_if_ne (tat ok_X9_read_2 (i := 19) (q := 175) rfl rfl) rfl (fun c18 => V_iinc (v := (a6 + 1)) (lv' := [(6, .int (a6 + 1)), (8, .int (((40 * a1) + a3) + (2 * a7))), (0, .ref 33), (1, .int a1), (2, .int a2), (3, .int a3), (4, .int a4), (5, .int a5), (7, .int a7)]) (tat ok_X9_read_2 (i := 24) (q := 184) rfl rfl) 7 rfl (ia ic_1) (Nat.le_of_ble_eq_true rfl) rfl <|
    V_pick [2, 3, 4, 5, 6, 7, 0, 8] rfl (V_X9_read_184_1  hr he hk (jx (P := oP P) kk (Eq.trans (if_pos c14) (Eq.trans (if_neg c15) (Eq.trans (if_neg c16) (Eq.trans (ob e17) (if_neg c18)))))))) (fun c18 => V_bipush (tat ok_X9_read_2 (i := 20) (q := 177) rfl rfl) bp_m20 <|
    V_iload (tat ok_X9_read_2 (i := 21) (q := 179) rfl rfl) 8 rfl <|
    V_isub (tat ok_X9_read_2 (i := 22) (q := 180) rfl rfl) <|
    V_iret (tat ok_X9_read_2 (i := 23) (q := 181) rfl rfl) _ rfl (nar_int _) (hr (((-20) - a7), I, L) (jx (P := oP P) kk (Eq.trans (if_pos c14) (Eq.trans (if_neg c15) (Eq.trans (if_neg c16) (Eq.trans (ob e17) (if_pos c18))))))) ⟨(Nat.le_of_ble_eq_true rfl), (Nat.le_of_ble_eq_true rfl)⟩)))))
def F_X9_read_47_1 (I : WI) (L : WL) (a1 : Int32) (a2 : Int32) (a3 : Int32) (a4 : Int32) (a5 : Int32) (a6 : Int32) (a7 : Int32) (a8 : Int32) : Option (((Int32 × WI × WL) ⊕ (Int32 × Int32)) ⊕ (Int32 × Int32 × Int32)) :=
  (lpp (fun x => (F_X9_read_47_2 I L a1 a2 a3 a4 a6 a7 (p1 x) (p2 x))) 4294967296 (a5, a8)).bind (fun q => (F_X9_read_134_1 I L a1 a2 a3 a4 q a6 a7))
theorem V_X9_read_47_1  {I : WI} {L : WL} {a1 : Int32} {a2 : Int32} {a3 : Int32} {a4 : Int32} {a5 : Int32} {a6 : Int32} {a7 : Int32} {a8 : Int32} {P : (((Int32 × WI × WL) ⊕ (Int32 × Int32)) ⊕ (Int32 × Int32 × Int32)) → Prop} {t : Tg} (hb8 : bz a8 = a8) (hr : ∀ v, P (.inl (.inl v)) → t = (some (.int (p1 v)), ly0, (p1 (p2 v)), (p2 (p2 v)), R0)) (he : ∀ x : (Int32 × Int32), P (.inl (.inr x)) → V (zM x_X9_read 4 0 0 t) 190 [(0, .ref 33), (1, .int a1), (2, .int a2), (3, .int a3), (4, .int a4), (5, .int (p1 x)), (6, .int (p2 x))] [] ly0 I L R0 0 0) (hk : ∀ x : (Int32 × Int32 × Int32), P (.inr x) → V (zM x_X9_read 4 0 0 t) 32 [(0, .ref 33), (1, .int a1), (2, .int a2), (3, .int a3), (4, .int a4), (5, .int (p1 x)), (6, .int (p1 (p2 x))), (7, .int (p2 (p2 x)))] [] ly0 I L R0 0 0) (kk : oP P (F_X9_read_47_1 I L a1 a2 a3 a4 a5 a6 a7 a8)) : V (zM x_X9_read 4 0 0 t) 47 [(0, .ref 33), (1, .int a1), (2, .int a2), (3, .int a3), (4, .int a4), (5, .int a5), (6, .int a6), (7, .int a7), (8, .int a8)] [] ly0 I L R0 0 0 :=
  V_lpp (fun x => (F_X9_read_47_2 I L a1 a2 a3 a4 a6 a7 (p1 x) (p2 x))) (fun x => V (zM x_X9_read 4 0 0 t) 47 [(0, .ref 33), (1, .int a1), (2, .int a2), (3, .int a3), (4, .int a4), (5, .int (p1 x)), (6, .int a6), (7, .int a7), (8, .int (p2 x))] [] ly0 I L R0 0 0) (fun x => oP P ((F_X9_read_134_1 I L a1 a2 a3 a4 x a6 a7))) (s := (a5, a8)) (fun x e0 => V_X9_read_47_2 (P := Sum.elim (fun x => oP P ((F_X9_read_134_1 I L a1 a2 a3 a4 x a6 a7))) (fun x => V (zM x_X9_read 4 0 0 t) 47 [(0, .ref 33), (1, .int a1), (2, .int a2), (3, .int a3), (4, .int a4), (5, .int (p1 x)), (6, .int a6), (7, .int a7), (8, .int (p2 x))] [] ly0 I L R0 0 0))  (fun x e => V_X9_read_134_1  hr he hk e) (fun _ e => e) e0) (oP_bind (f := fun q => _) kk)
def F_X9_read_32_1 (I : WI) (L : WL) (a1 : Int32) (a2 : Int32) (a3 : Int32) (a4 : Int32) (a5 : Int32) (a6 : Int32) (a7 : Int32) : Option (((Int32 × WI × WL) ⊕ (Int32 × Int32)) ⊕ (Int32 × Int32 × Int32)) :=
  (if a4 ≤ a7 then some (.inl (.inr (a5, a6))) else (if a5 = 0 then (F_X9_read_47_1 I L a1 a2 a3 a4 a5 a6 a7 0) else some (.inl (.inr (a5, a6)))))
theorem V_X9_read_32_1  {I : WI} {L : WL} {a1 : Int32} {a2 : Int32} {a3 : Int32} {a4 : Int32} {a5 : Int32} {a6 : Int32} {a7 : Int32} {P : (((Int32 × WI × WL) ⊕ (Int32 × Int32)) ⊕ (Int32 × Int32 × Int32)) → Prop} {t : Tg} (hr : ∀ v, P (.inl (.inl v)) → t = (some (.int (p1 v)), ly0, (p1 (p2 v)), (p2 (p2 v)), R0)) (he : ∀ x : (Int32 × Int32), P (.inl (.inr x)) → V (zM x_X9_read 4 0 0 t) 190 [(0, .ref 33), (1, .int a1), (2, .int a2), (3, .int a3), (4, .int a4), (5, .int (p1 x)), (6, .int (p2 x))] [] ly0 I L R0 0 0) (hk : ∀ x : (Int32 × Int32 × Int32), P (.inr x) → V (zM x_X9_read 4 0 0 t) 32 [(0, .ref 33), (1, .int a1), (2, .int a2), (3, .int a3), (4, .int a4), (5, .int (p1 x)), (6, .int (p1 (p2 x))), (7, .int (p2 (p2 x)))] [] ly0 I L R0 0 0) (kk : oP P (F_X9_read_32_1 I L a1 a2 a3 a4 a5 a6 a7)) : V (zM x_X9_read 4 0 0 t) 32 [(0, .ref 33), (1, .int a1), (2, .int a2), (3, .int a3), (4, .int a4), (5, .int a5), (6, .int a6), (7, .int a7)] [] ly0 I L R0 0 0 :=
  V_iload (tat ok_X9_read_0 (i := 18) (q := 34) rfl rfl) 7 rfl <|
    V_iload (tat ok_X9_read_0 (i := 19) (q := 36) rfl rfl) 4 rfl <|
    V_icmp_ge (tat ok_X9_read_0 (i := 20) (q := 39) rfl rfl) rfl (fun c3 => V_pick [0, 1, 2, 3, 4, 5, 6] rfl (he (a5, a6) (jx (P := oP P) kk (if_pos c3)))) (fun c3 => V_iload (tat ok_X9_read_0 (i := 21) (q := 41) rfl rfl) 5 rfl <|
    V_if_ne (tat ok_X9_read_0 (i := 22) (q := 44) rfl rfl) rfl (fun c4 => V_pick [0, 1, 2, 3, 4, 5, 6] rfl (he (a5, a6) (jx (P := oP P) kk (Eq.trans (if_neg c3) (if_neg c4))))) (fun c4 => V_iconst (tat ok_X9_read_0 (i := 23) (q := 45) rfl rfl) ic_0 <|
    V_istore (lv' := [(8, .int 0), (0, .ref 33), (1, .int a1), (2, .int a2), (3, .int a3), (4, .int a4), (5, .int a5), (6, .int a6), (7, .int a7)]) (tat ok_X9_read_0 (i := 24) (q := 47) rfl rfl) (Nat.le_of_ble_eq_true rfl) rfl <|
    V_pick [1, 2, 3, 4, 5, 6, 7, 8, 0] rfl (V_X9_read_47_1 rfl hr he hk (jx (P := oP P) kk (Eq.trans (if_neg c3) (if_pos c4))))))
def F_X9_read_206_3 (I : WI) (L : WL) (a1 : Int32) (a2 : Int32) (a3 : Int32) (a4 : Int32) (a6 : Int32) (a7 : Int32) : Option WL :=
  (if (((40 * a1) + a3) + (2 * a7)) < 0 ∨ 160 ≤ Int32.toNatClampNeg (((40 * a1) + a3) + (2 * a7)) then none else (if ((((40 * a1) + a3) + (2 * a7)) + 1) < 0 ∨ 160 ≤ Int32.toNatClampNeg ((((40 * a1) + a3) + (2 * a7)) + 1) then none else some (u2 L 33 2 ((L 33 2) ^^^ (F_X9_actSet I (I 44 (Int32.toNatClampNeg (((40 * a1) + a3) + (2 * a7)))) (I 44 (Int32.toNatClampNeg ((((40 * a1) + a3) + (2 * a7)) + 1))))))))
theorem V_X9_read_206_3  {I : WI} {L : WL} {a1 : Int32} {a2 : Int32} {a3 : Int32} {a4 : Int32} {a6 : Int32} {a7 : Int32}  {P : WL → Prop} {t : Tg} (hk : ∀ x : WL, P x → V (zM x_X9_read 4 0 0 t) 199 [(0, .ref 33), (1, .int a1), (2, .int a2), (3, .int a3), (4, .int a4), (6, .int a6), (7, .int (a7 + 1))] [] ly0 I x R0 0 0) (kk : oP P (F_X9_read_206_3 I L a1 a2 a3 a4 a6 a7)) : V (zM x_X9_read 4 0 0 t) 206 [(0, .ref 33), (1, .int a1), (2, .int a2), (3, .int a3), (4, .int a4), (6, .int a6), (7, .int a7)] [] ly0 I L R0 0 0 :=
  V_bipush (tat ok_X9_read_2 (i := 35) (q := 208) rfl rfl) bp_40 <|
    V_iload_n (tat ok_X9_read_2 (i := 36) (q := 209) rfl rfl) 1 rfl rfl <|
    V_imul (tat ok_X9_read_2 (i := 37) (q := 210) rfl rfl) <|
    V_iload_n (tat ok_X9_read_2 (i := 38) (q := 211) rfl rfl) 3 rfl rfl <|
    V_iadd (tat ok_X9_read_2 (i := 39) (q := 212) rfl rfl) <|
    V_iconst (tat ok_X9_read_3 (i := 0) (q := 213) rfl rfl) ic_2 <|
    V_iload (tat ok_X9_read_3 (i := 1) (q := 215) rfl rfl) 6 rfl <|
    V_imul (tat ok_X9_read_3 (i := 2) (q := 216) rfl rfl) <|
    V_iadd (tat ok_X9_read_3 (i := 3) (q := 217) rfl rfl) <|
    V_istore (lv' := [(8, .int (((40 * a1) + a3) + (2 * a7))), (0, .ref 33), (1, .int a1), (2, .int a2), (3, .int a3), (4, .int a4), (6, .int a6), (7, .int a7)]) (tat ok_X9_read_3 (i := 4) (q := 219) rfl rfl) (Nat.le_of_ble_eq_true rfl) rfl <|
    V_aload_n (tat ok_X9_read_3 (i := 5) (q := 220) rfl rfl) 1 rfl rfl <|
    V_dup (tat ok_X9_read_3 (i := 6) (q := 221) rfl rfl) rfl <|
    V_getL (tat ok_X9_read_3 (i := 7) (q := 224) rfl rfl) fk_X9_80 rfl <|
    V_aload_n (tat ok_X9_read_3 (i := 8) (q := 225) rfl rfl) 1 rfl rfl <|
    V_aload_n (tat ok_X9_read_3 (i := 9) (q := 226) rfl rfl) 1 rfl rfl <|
    V_getR (tat ok_X9_read_3 (i := 10) (q := 229) rfl rfl) fk_X9_41 rfl rfl <|
    V_iload (tat ok_X9_read_3 (i := 11) (q := 231) rfl rfl) 0 rfl <|
    (if c19 : (((40 * a1) + a3) + (2 * a7)) < 0 ∨ 160 ≤ Int32.toNatClampNeg (((40 * a1) + a3) + (2 * a7)) then ((jx (P := oP P) kk (if_pos c19))).elim else V_iald (tat ok_X9_read_3 (i := 12) (q := 232) rfl rfl) rfl c19 <|
    V_aload_n (tat ok_X9_read_3 (i := 13) (q := 233) rfl rfl) 1 rfl rfl <|
    V_getR (tat ok_X9_read_3 (i := 14) (q := 236) rfl rfl) fk_X9_41 rfl rfl <|
    V_iload (tat ok_X9_read_3 (i := 15) (q := 238) rfl rfl) 0 rfl <|
    V_iconst (tat ok_X9_read_3 (i := 16) (q := 239) rfl rfl) ic_1 <|
    V_iadd (tat ok_X9_read_3 (i := 17) (q := 240) rfl rfl) <|
    (if c20 : ((((40 * a1) + a3) + (2 * a7)) + 1) < 0 ∨ 160 ≤ Int32.toNatClampNeg ((((40 * a1) + a3) + (2 * a7)) + 1) then ((jx (P := oP P) kk (Eq.trans (if_neg c19) (if_pos c20)))).elim else V_iald (tat ok_X9_read_3 (i := 18) (q := 241) rfl rfl) rfl c20 <|
    V_cv2 (ct_X9_actSet I L (I 44 (Int32.toNatClampNeg (((40 * a1) + a3) + (2 * a7)))) (I 44 (Int32.toNatClampNeg ((((40 * a1) + a3) + (2 * a7)) + 1))) ) mo_X9_actSet (tat ok_X9_read_3 (i := 19) (q := 244) rfl rfl) ml_X9_217 rfl ⟨by decide, _, rfl, rfl⟩ ⟨(Nat.le_of_ble_eq_true rfl), (Nat.le_of_ble_eq_true rfl)⟩ ⟨(Nat.le_of_ble_eq_true rfl), (Nat.le_of_ble_eq_true rfl)⟩ (Nat.le_of_ble_eq_true rfl) <|
    V_lxor (tat ok_X9_read_3 (i := 20) (q := 245) rfl rfl) <|
    V_putL (tat ok_X9_read_3 (i := 21) (q := 248) rfl rfl) fk_X9_80 rfl rfl <|
    V_iinc (v := (a7 + 1)) (lv' := [(7, .int (a7 + 1)), (8, .int (((40 * a1) + a3) + (2 * a7))), (0, .ref 33), (1, .int a1), (2, .int a2), (3, .int a3), (4, .int a4), (6, .int a6)]) (tat ok_X9_read_3 (i := 22) (q := 251) rfl rfl) 7 rfl (ia ic_1) (Nat.le_of_ble_eq_true rfl) rfl <|
    V_goto (tat ok_X9_read_3 (i := 23) (q := 254) rfl rfl) rfl <|
    V_pick [2, 3, 4, 5, 6, 7, 0] rfl (hk (u2 L 33 2 ((L 33 2) ^^^ (F_X9_actSet I (I 44 (Int32.toNatClampNeg (((40 * a1) + a3) + (2 * a7)))) (I 44 (Int32.toNatClampNeg ((((40 * a1) + a3) + (2 * a7)) + 1)))))) (jx (P := oP P) kk (Eq.trans (if_neg c19) (if_neg c20))))))
def F_X9_read_254 (I : WI) (L : WL) (a1 : Int32) (a2 : Int32) (a3 : Int32) (a4 : Int32) (a6 : Int32) : Option (Int32 × WI × WL) :=
  some (a6, I, L)
theorem V_X9_read_254  {I : WI} {L : WL} {a1 : Int32} {a2 : Int32} {a3 : Int32} {a4 : Int32} {a6 : Int32} {P : (Int32 × WI × WL) → Prop} {t : Tg} (hr : ∀ v, P v → t = (some (.int (p1 v)), ly0, (p1 (p2 v)), (p2 (p2 v)), R0)) (kk : oP P (F_X9_read_254 I L a1 a2 a3 a4 a6)) : V (zM x_X9_read 4 0 0 t) 254 [(0, .ref 33), (1, .int a1), (2, .int a2), (3, .int a3), (4, .int a4), (6, .int a6)] [] ly0 I L R0 0 0 :=
  V_iload (tat ok_X9_read_3 (i := 24) (q := 256) rfl rfl) 5 rfl <|
    V_iret (tat ok_X9_read_3 (i := 25) (q := 257) rfl rfl) _ rfl (nar_int _) (hr (a6, I, L) (jx (P := oP P) kk rfl)) ⟨(Nat.le_of_ble_eq_true rfl), (Nat.le_of_ble_eq_true rfl)⟩
def F_X9_read_199 (I : WI) (L : WL) (a1 : Int32) (a2 : Int32) (a3 : Int32) (a4 : Int32) (a6 : Int32) (a7 : Int32) : Option (Int32 × WI × WL) :=
  (frp0 (fun i x => (F_X9_read_206_3 I x a1 a2 a3 a4 a6 i)) a6 (fu a7 a6) a7 L).bind (fun q => (F_X9_read_254 I (p2 q) a1 a2 a3 a4 a6))
theorem V_X9_read_199  {I : WI} {L : WL} {a1 : Int32} {a2 : Int32} {a3 : Int32} {a4 : Int32} {a6 : Int32} {a7 : Int32} {P : (Int32 × WI × WL) → Prop} {t : Tg} (hb7 : bz a7 = a7) (hr : ∀ v, P v → t = (some (.int (p1 v)), ly0, (p1 (p2 v)), (p2 (p2 v)), R0)) (kk : oP P (F_X9_read_199 I L a1 a2 a3 a4 a6 a7)) : V (zM x_X9_read 4 0 0 t) 199 [(0, .ref 33), (1, .int a1), (2, .int a2), (3, .int a3), (4, .int a4), (6, .int a6), (7, .int a7)] [] ly0 I L R0 0 0 :=
  V_frp0 (fun i x => (F_X9_read_206_3 I x a1 a2 a3 a4 a6 i)) a6 (fun i x => V (zM x_X9_read 4 0 0 t) 199 [(0, .ref 33), (1, .int a1), (2, .int a2), (3, .int a3), (4, .int a4), (6, .int a6), (7, .int i)] [] ly0 I x R0 0 0) (fun i x => oP P ((F_X9_read_254 I x a1 a2 a3 a4 a6))) (c := a7) (s := L) (fun i x kx kb => V_iload (tat ok_X9_read_2 (i := 32) (q := 201) rfl rfl) 6 rfl <|
    V_iload (tat ok_X9_read_2 (i := 33) (q := 203) rfl rfl) 5 rfl <|
    V_icmp_ge (tat ok_X9_read_2 (i := 34) (q := 206) rfl rfl) rfl (fun c0 => V_pick [0, 1, 2, 3, 4, 5] rfl (V_X9_read_254  hr (kx c0))) (fun c0 => V_X9_read_206_3 (P := (fun x => (fun i x => V (zM x_X9_read 4 0 0 t) 199 [(0, .ref 33), (1, .int a1), (2, .int a2), (3, .int a3), (4, .int a4), (6, .int a6), (7, .int i)] [] ly0 I x R0 0 0) (i + 1) x))  (fun _ e => e) (kb c0))) (oP_bind (f := fun q => _) kk)
def F_X9_read_190 (I : WI) (L : WL) (a1 : Int32) (a2 : Int32) (a3 : Int32) (a4 : Int32) (a5 : Int32) (a6 : Int32) : Option (Int32 × WI × WL) :=
  (F_X9_read_199 (u2 I 33 46 a5) L a1 a2 a3 a4 a6 0)
theorem V_X9_read_190  {I : WI} {L : WL} {a1 : Int32} {a2 : Int32} {a3 : Int32} {a4 : Int32} {a5 : Int32} {a6 : Int32} {P : (Int32 × WI × WL) → Prop} {t : Tg} (hr : ∀ v, P v → t = (some (.int (p1 v)), ly0, (p1 (p2 v)), (p2 (p2 v)), R0)) (kk : oP P (F_X9_read_190 I L a1 a2 a3 a4 a5 a6)) : V (zM x_X9_read 4 0 0 t) 190 [(0, .ref 33), (1, .int a1), (2, .int a2), (3, .int a3), (4, .int a4), (5, .int a5), (6, .int a6)] [] ly0 I L R0 0 0 :=
  V_aload_n (tat ok_X9_read_2 (i := 27) (q := 191) rfl rfl) 0 rfl rfl <|
    V_iload (tat ok_X9_read_2 (i := 28) (q := 193) rfl rfl) 5 rfl <|
    V_putI (tat ok_X9_read_2 (i := 29) (q := 196) rfl rfl) fk_X9_338 rfl rfl <|
    V_iconst (tat ok_X9_read_2 (i := 30) (q := 197) rfl rfl) ic_0 <|
    V_istore (lv' := [(7, .int 0), (0, .ref 33), (1, .int a1), (2, .int a2), (3, .int a3), (4, .int a4), (5, .int a5), (6, .int a6)]) (tat ok_X9_read_2 (i := 31) (q := 199) rfl rfl) (Nat.le_of_ble_eq_true rfl) rfl <|
    V_pick [1, 2, 3, 4, 5, 7, 0] rfl (V_X9_read_199 rfl hr (jx (P := oP P) kk rfl))
def F_X9_read_32 (I : WI) (L : WL) (a1 : Int32) (a2 : Int32) (a3 : Int32) (a4 : Int32) (a5 : Int32) (a6 : Int32) (a7 : Int32) : Option (Int32 × WI × WL) :=
  (lpp (fun x => (F_X9_read_32_1 I L a1 a2 a3 a4 (p1 x) (p1 (p2 x)) (p2 (p2 x)))) 4294967296 (a5, a6, a7)).bind (Sum.elim (fun r => some (r)) (fun q => (F_X9_read_190 I L a1 a2 a3 a4 (p1 q) (p2 q))))
theorem V_X9_read_32  {I : WI} {L : WL} {a1 : Int32} {a2 : Int32} {a3 : Int32} {a4 : Int32} {a5 : Int32} {a6 : Int32} {a7 : Int32} {P : (Int32 × WI × WL) → Prop} {t : Tg} (hb5 : bz a5 = a5) (hb6 : bz a6 = a6) (hb7 : bz a7 = a7) (hr : ∀ v, P v → t = (some (.int (p1 v)), ly0, (p1 (p2 v)), (p2 (p2 v)), R0)) (kk : oP P (F_X9_read_32 I L a1 a2 a3 a4 a5 a6 a7)) : V (zM x_X9_read 4 0 0 t) 32 [(0, .ref 33), (1, .int a1), (2, .int a2), (3, .int a3), (4, .int a4), (5, .int a5), (6, .int a6), (7, .int a7)] [] ly0 I L R0 0 0 :=
  V_lpp (fun x => (F_X9_read_32_1 I L a1 a2 a3 a4 (p1 x) (p1 (p2 x)) (p2 (p2 x)))) (fun x => V (zM x_X9_read 4 0 0 t) 32 [(0, .ref 33), (1, .int a1), (2, .int a2), (3, .int a3), (4, .int a4), (5, .int (p1 x)), (6, .int (p1 (p2 x))), (7, .int (p2 (p2 x)))] [] ly0 I L R0 0 0) (Sum.elim (fun r => P (r)) (fun x => oP P ((F_X9_read_190 I L a1 a2 a3 a4 (p1 x) (p2 x))))) (s := (a5, a6, a7)) (fun x e0 => V_X9_read_32_1 (P := Sum.elim (Sum.elim (fun r => P (r)) (fun x => oP P ((F_X9_read_190 I L a1 a2 a3 a4 (p1 x) (p2 x))))) (fun x => V (zM x_X9_read 4 0 0 t) 32 [(0, .ref 33), (1, .int a1), (2, .int a2), (3, .int a3), (4, .int a4), (5, .int (p1 x)), (6, .int (p1 (p2 x))), (7, .int (p2 (p2 x)))] [] ly0 I L R0 0 0))  (fun v e => hr v e) (fun x e => V_X9_read_190  hr e) (fun _ e => e) e0) (oP_sum kk)
def F_X9_read (I : WI) (L : WL) (a1 : Int32) (a2 : Int32) (a3 : Int32) (a4 : Int32) : Option (Int32 × WI × WL) :=
  (if (F_X9_isSheet a1 a2) = 0 then (F_X9_read_21 I L a1 a2 a3 a4) else (if (F_X9_in (Int32.toInt64 a4) 0 20) = 0 then (F_X9_read_21 I L a1 a2 a3 a4) else (F_X9_read_32 I L a1 a2 a3 a4 0 0 0)))
theorem V_X9_read  {I : WI} {L : WL} {a1 : Int32} {a2 : Int32} {a3 : Int32} {a4 : Int32}  {P : (Int32 × WI × WL) → Prop} {t : Tg} (hr : ∀ v, P v → t = (some (.int (p1 v)), ly0, (p1 (p2 v)), (p2 (p2 v)), R0)) (kk : oP P (F_X9_read I L a1 a2 a3 a4)) : V (zM x_X9_read 4 0 0 t) 0 [(0, .ref 33), (1, .int a1), (2, .int a2), (3, .int a3), (4, .int a4)] [] ly0 I L R0 0 0 :=
  V_iload_n (tat ok_X9_read_0 (i := 0) (q := 1) rfl rfl) 1 rfl rfl <|
    V_iload_n (tat ok_X9_read_0 (i := 1) (q := 2) rfl rfl) 2 rfl rfl <|
    V_cs2 (ct_X9_isSheet I L a1 a2 ) mo_X9_isSheet (tat ok_X9_read_0 (i := 2) (q := 5) rfl rfl) ml_X9_333 ⟨(Nat.le_of_ble_eq_true rfl), (Nat.le_of_ble_eq_true rfl)⟩ ⟨(Nat.le_of_ble_eq_true rfl), (Nat.le_of_ble_eq_true rfl)⟩ (Nat.le_of_ble_eq_true rfl) <|
    V_if_eq (tat ok_X9_read_0 (i := 3) (q := 8) rfl rfl) rfl (fun c1 => V_X9_read_21  hr (jx (P := oP P) kk (if_pos c1))) (fun c1 => V_iload (tat ok_X9_read_0 (i := 4) (q := 10) rfl rfl) 4 rfl <|
    V_i2l (tat ok_X9_read_0 (i := 5) (q := 11) rfl rfl) <|
    V_lconst (v := 0) (tat ok_X9_read_0 (i := 6) (q := 12) rfl rfl) rfl <|
    V_ldc2 (tat ok_X9_read_0 (i := 7) (q := 15) rfl rfl) (gw_in kl_X9_336 rfl) <|
    V_cs3 (ct_X9_in I L (Int32.toInt64 a4) 0 20 ) mo_X9_in (tat ok_X9_read_0 (i := 8) (q := 18) rfl rfl) ml_X9_97 ⟨(Nat.le_of_ble_eq_true rfl), (Nat.le_of_ble_eq_true rfl)⟩ ⟨(Nat.le_of_ble_eq_true rfl), (Nat.le_of_ble_eq_true rfl)⟩ (Nat.le_of_ble_eq_true rfl) <|
    V_if_ne (tat ok_X9_read_0 (i := 9) (q := 21) rfl rfl) rfl (fun c2 => V_iconst (tat ok_X9_read_0 (i := 12) (q := 24) rfl rfl) ic_0 <|
    V_istore (lv' := [(5, .int 0), (0, .ref 33), (1, .int a1), (2, .int a2), (3, .int a3), (4, .int a4)]) (tat ok_X9_read_0 (i := 13) (q := 26) rfl rfl) (Nat.le_of_ble_eq_true rfl) rfl <|
    V_iconst (tat ok_X9_read_0 (i := 14) (q := 27) rfl rfl) ic_0 <|
    V_istore (lv' := [(6, .int 0), (5, .int 0), (0, .ref 33), (1, .int a1), (2, .int a2), (3, .int a3), (4, .int a4)]) (tat ok_X9_read_0 (i := 15) (q := 29) rfl rfl) (Nat.le_of_ble_eq_true rfl) rfl <|
    V_iconst (tat ok_X9_read_0 (i := 16) (q := 30) rfl rfl) ic_0 <|
    V_istore (lv' := [(7, .int 0), (6, .int 0), (5, .int 0), (0, .ref 33), (1, .int a1), (2, .int a2), (3, .int a3), (4, .int a4)]) (tat ok_X9_read_0 (i := 17) (q := 32) rfl rfl) (Nat.le_of_ble_eq_true rfl) rfl <|
    V_pick [3, 4, 5, 6, 7, 2, 1, 0] rfl (V_X9_read_32 rfl rfl rfl hr (jx (P := oP P) kk (Eq.trans (if_neg c1) (if_neg c2))))) (fun c2 => V_X9_read_21  hr (jx (P := oP P) kk (Eq.trans (if_neg c1) (if_pos c2)))))
theorem ct_X9_read  (I : WI) (L : WL) (a1 : Int32) (a2 : Int32) (a3 : Int32) (a4 : Int32)  {v : (Int32 × WI × WL)} (h : (F_X9_read I L a1 a2 a3 a4) = some v) : Ct x_X9_read 4 [.ref 33, .int a1, .int a2, .int a3, .int a4] ly0 I L R0 0 0 (some (.int (p1 v)), ly0, (p1 (p2 v)), (p2 (p2 v)), R0) :=
  Ct_of_V mo_X9_read.1 (Nat.le_of_ble_eq_true rfl) (V_X9_read (P := fun x => x = v)  (fun _ e => by rw [e]) (by rw [h]; exact rfl))
def F_X9_torn (I : WI) : Int32 :=
  (I 33 46)
theorem V_X9_torn  {I : WI} {L : WL}   {P : Int32 → Prop} {t : Tg} (hr : ∀ v, P v → t = (some (.int v), ly0, I, L, R0)) (kk : P (F_X9_torn I)) : V (zM x_X9_torn 1 0 0 t) 0 [(0, .ref 33)] [] ly0 I L R0 0 0 :=
  V_aload_n (tat ok_X9_torn_0 (i := 0) (q := 1) rfl rfl) 0 rfl rfl <|
    V_getI (tat ok_X9_torn_0 (i := 1) (q := 4) rfl rfl) fk_X9_338 rfl <|
    V_iret (tat ok_X9_torn_0 (i := 2) (q := 5) rfl rfl) _ rfl (nar_int _) (hr (I 33 46) (jx (P := P) kk rfl)) ⟨(Nat.le_of_ble_eq_true rfl), (Nat.le_of_ble_eq_true rfl)⟩
theorem ct_X9_torn  (I : WI) (L : WL)  : Ct x_X9_torn 1 [.ref 33] ly0 I L R0 0 0 (some (.int (F_X9_torn I)), ly0, I, L, R0) :=
  Ct_of_V mo_X9_torn.1 (Nat.le_of_ble_eq_true rfl) (V_X9_torn (P := fun x => x = (F_X9_torn I))  (fun _ e => by rw [e]) rfl)
def F_X9_count_82 (I : WI) (L : WL) (a1 : Int32) (s0 : Int32) : Option Int32 :=
  some s0
theorem V_X9_count_82  {I : WI} {L : WL} {a1 : Int32} {s0 : Int32} {P : Int32 → Prop} {t : Tg} (hr : ∀ v, P v → t = (some (.int v), ly0, I, L, R0)) (kk : oP P (F_X9_count_82 I L a1 s0)) : V (zM x_X9_count 2 0 0 t) 82 [(0, .ref 33), (1, .int a1)] [.int s0] ly0 I L R0 0 0 :=
  V_iret (tat ok_X9_count_0 (i := 23) (q := 83) rfl rfl) _ rfl (nar_int _) (hr s0 (jx (P := oP P) kk rfl)) ⟨(Nat.le_of_ble_eq_true rfl), (Nat.le_of_ble_eq_true rfl)⟩
def F_X9_count_128 (I : WI) (L : WL) (a1 : Int32) (s0 : Int32) : Option Int32 :=
  some s0
theorem V_X9_count_128  {I : WI} {L : WL} {a1 : Int32} {s0 : Int32} {P : Int32 → Prop} {t : Tg} (hr : ∀ v, P v → t = (some (.int v), ly0, I, L, R0)) (kk : oP P (F_X9_count_128 I L a1 s0)) : V (zM x_X9_count 2 0 0 t) 128 [(0, .ref 33), (1, .int a1)] [.int s0] ly0 I L R0 0 0 :=
  V_iret (tat ok_X9_count_1 (i := 9) (q := 129) rfl rfl) _ rfl (nar_int _) (hr s0 (jx (P := oP P) kk rfl)) ⟨(Nat.le_of_ble_eq_true rfl), (Nat.le_of_ble_eq_true rfl)⟩
def F_X9_count (I : WI) (L : WL) (a1 : Int32) : Option Int32 :=
  (if a1 = 0 then some (F_X9_many (L 33 2)) else (if a1 = 1 then some ((I 33 0) * (I 33 1)) else (if a1 = 2 then (if (bz (I 33 4)) = 0 then (F_X9_count_82 I L a1 (-4)) else (F_X9_count_82 I L a1 (F_X9_many ((L 33 2) ^^^ (L 33 3))))) else (if a1 = 3 then (Option.bind (F_X9_isKept I 0) (fun v8 => (Option.bind (F_X9_isKept I 1) (fun v9 => some ((F_X9_flag v8) + (F_X9_flag v9)))))) else (if a1 = 4 then some (I 33 21) else (if a1 = 5 then (if (I 42 (Int32.toNatClampNeg 0)) = (-4) then (F_X9_count_128 I L a1 (-4)) else (F_X9_count_128 I L a1 (I 43 (Int32.toNatClampNeg 0)))) else some (-1)))))))
theorem V_X9_count  {I : WI} {L : WL} {a1 : Int32}  {P : Int32 → Prop} {t : Tg} (hr : ∀ v, P v → t = (some (.int v), ly0, I, L, R0)) (kk : oP P (F_X9_count I L a1)) : V (zM x_X9_count 2 0 0 t) 0 [(0, .ref 33), (1, .int a1)] [] ly0 I L R0 0 0 :=
  V_iload_n (tat ok_X9_count_0 (i := 0) (q := 1) rfl rfl) 1 rfl rfl <|
    (if c1 : a1 = 0 then V_tswJ (tgt := 40) (off := 39) 0 (tat ok_X9_count_0 (i := 1) (q := 40) rfl rfl) (swj c1) ⟨rfl, by decide⟩ rfl (V_aload_n (tat ok_X9_count_0 (i := 2) (q := 41) rfl rfl) 0 rfl rfl <|
    V_getL (tat ok_X9_count_0 (i := 3) (q := 44) rfl rfl) fk_X9_80 rfl <|
    V_cs1 (ct_X9_many I L (L 33 2) ) mo_X9_many (tat ok_X9_count_0 (i := 4) (q := 47) rfl rfl) ml_X9_220 ⟨(Nat.le_of_ble_eq_true rfl), (Nat.le_of_ble_eq_true rfl)⟩ ⟨(Nat.le_of_ble_eq_true rfl), (Nat.le_of_ble_eq_true rfl)⟩ (Nat.le_of_ble_eq_true rfl) <|
    V_iret (tat ok_X9_count_0 (i := 5) (q := 48) rfl rfl) _ rfl (nar_int _) (hr (F_X9_many (L 33 2)) (jx (P := oP P) kk (if_pos c1))) ⟨(Nat.le_of_ble_eq_true rfl), (Nat.le_of_ble_eq_true rfl)⟩) else (if c2 : a1 = 1 then V_tswJ (tgt := 48) (off := 47) 1 (tat ok_X9_count_0 (i := 1) (q := 40) rfl rfl) (swj c2) ⟨rfl, by decide⟩ rfl (V_aload_n (tat ok_X9_count_0 (i := 6) (q := 49) rfl rfl) 0 rfl rfl <|
    V_getI (tat ok_X9_count_0 (i := 7) (q := 52) rfl rfl) fk_X9_74 rfl <|
    V_aload_n (tat ok_X9_count_0 (i := 8) (q := 53) rfl rfl) 0 rfl rfl <|
    V_getI (tat ok_X9_count_0 (i := 9) (q := 56) rfl rfl) fk_X9_77 rfl <|
    V_imul (tat ok_X9_count_0 (i := 10) (q := 57) rfl rfl) <|
    V_iret (tat ok_X9_count_0 (i := 11) (q := 58) rfl rfl) _ rfl (nar_int _) (hr ((I 33 0) * (I 33 1)) (jx (P := oP P) kk (Eq.trans (if_neg c1) (if_pos c2)))) ⟨(Nat.le_of_ble_eq_true rfl), (Nat.le_of_ble_eq_true rfl)⟩) else (if c3 : a1 = 2 then V_tswJ (tgt := 58) (off := 57) 2 (tat ok_X9_count_0 (i := 1) (q := 40) rfl rfl) (swj c3) ⟨rfl, by decide⟩ rfl (V_aload_n (tat ok_X9_count_0 (i := 12) (q := 59) rfl rfl) 0 rfl rfl <|
    V_getZ (tat ok_X9_count_0 (i := 13) (q := 62) rfl rfl) fk_X9_86 rfl <|
    V_if_eq (tat ok_X9_count_0 (i := 14) (q := 65) rfl rfl) rfl (fun c7 => V_bipush (tat ok_X9_count_0 (i := 22) (q := 82) rfl rfl) bp_m4 <|
    V_X9_count_82  hr (jx (P := oP P) kk (Eq.trans (if_neg c1) (Eq.trans (if_neg c2) (Eq.trans (if_pos c3) (if_pos c7)))))) (fun c7 => V_aload_n (tat ok_X9_count_0 (i := 15) (q := 66) rfl rfl) 0 rfl rfl <|
    V_getL (tat ok_X9_count_0 (i := 16) (q := 69) rfl rfl) fk_X9_80 rfl <|
    V_aload_n (tat ok_X9_count_0 (i := 17) (q := 70) rfl rfl) 0 rfl rfl <|
    V_getL (tat ok_X9_count_0 (i := 18) (q := 73) rfl rfl) fk_X9_83 rfl <|
    V_lxor (tat ok_X9_count_0 (i := 19) (q := 74) rfl rfl) <|
    V_cs1 (ct_X9_many I L ((L 33 2) ^^^ (L 33 3)) ) mo_X9_many (tat ok_X9_count_0 (i := 20) (q := 77) rfl rfl) ml_X9_220 ⟨(Nat.le_of_ble_eq_true rfl), (Nat.le_of_ble_eq_true rfl)⟩ ⟨(Nat.le_of_ble_eq_true rfl), (Nat.le_of_ble_eq_true rfl)⟩ (Nat.le_of_ble_eq_true rfl) <|
    V_goto (tat ok_X9_count_0 (i := 21) (q := 80) rfl rfl) rfl <|
    V_X9_count_82  hr (jx (P := oP P) kk (Eq.trans (if_neg c1) (Eq.trans (if_neg c2) (Eq.trans (if_pos c3) (if_neg c7))))))) else (if c4 : a1 = 3 then V_tswJ (tgt := 83) (off := 82) 3 (tat ok_X9_count_0 (i := 1) (q := 40) rfl rfl) (swj c4) ⟨rfl, by decide⟩ rfl (V_aload_n (tat ok_X9_count_0 (i := 24) (q := 84) rfl rfl) 0 rfl rfl <|
    V_iconst (tat ok_X9_count_0 (i := 25) (q := 85) rfl rfl) ic_0 <|
    oP_case (jx (P := oP P) kk (Eq.trans (if_neg c1) (Eq.trans (if_neg c2) (Eq.trans (if_neg c3) (if_pos c4))))) (fun v8 e8 _ => V_cv1 (ct_X9_isKept I L 0  e8) mo_X9_isKept (tat ok_X9_count_0 (i := 26) (q := 88) rfl rfl) ml_X9_239 rfl ⟨by decide, _, rfl, rfl⟩ ⟨(Nat.le_of_ble_eq_true rfl), (Nat.le_of_ble_eq_true rfl)⟩ ⟨(Nat.le_of_ble_eq_true rfl), (Nat.le_of_ble_eq_true rfl)⟩ (Nat.le_of_ble_eq_true rfl) <|
    V_cs1 (ct_X9_flag I L v8 ) mo_X9_flag (tat ok_X9_count_0 (i := 27) (q := 91) rfl rfl) ml_X9_200 ⟨(Nat.le_of_ble_eq_true rfl), (Nat.le_of_ble_eq_true rfl)⟩ ⟨(Nat.le_of_ble_eq_true rfl), (Nat.le_of_ble_eq_true rfl)⟩ (Nat.le_of_ble_eq_true rfl) <|
    V_aload_n (tat ok_X9_count_0 (i := 28) (q := 92) rfl rfl) 0 rfl rfl <|
    V_iconst (tat ok_X9_count_0 (i := 29) (q := 93) rfl rfl) ic_1 <|
    oP_case (jx (P := oP P) kk (Eq.trans (if_neg c1) (Eq.trans (if_neg c2) (Eq.trans (if_neg c3) (Eq.trans (if_pos c4) (ob e8)))))) (fun v9 e9 _ => V_cv1 (ct_X9_isKept I L 1  e9) mo_X9_isKept (tat ok_X9_count_0 (i := 30) (q := 96) rfl rfl) ml_X9_239 rfl ⟨by decide, _, rfl, rfl⟩ ⟨(Nat.le_of_ble_eq_true rfl), (Nat.le_of_ble_eq_true rfl)⟩ ⟨(Nat.le_of_ble_eq_true rfl), (Nat.le_of_ble_eq_true rfl)⟩ (Nat.le_of_ble_eq_true rfl) <|
    V_cs1 (ct_X9_flag I L v9 ) mo_X9_flag (tat ok_X9_count_0 (i := 31) (q := 99) rfl rfl) ml_X9_200 ⟨(Nat.le_of_ble_eq_true rfl), (Nat.le_of_ble_eq_true rfl)⟩ ⟨(Nat.le_of_ble_eq_true rfl), (Nat.le_of_ble_eq_true rfl)⟩ (Nat.le_of_ble_eq_true rfl) <|
    V_iadd (tat ok_X9_count_0 (i := 32) (q := 100) rfl rfl) <|
    V_iret (tat ok_X9_count_0 (i := 33) (q := 101) rfl rfl) _ rfl (nar_int _) (hr ((F_X9_flag v8) + (F_X9_flag v9)) (jx (P := oP P) kk (Eq.trans (if_neg c1) (Eq.trans (if_neg c2) (Eq.trans (if_neg c3) (Eq.trans (if_pos c4) (Eq.trans (ob e8) (ob e9)))))))) ⟨(Nat.le_of_ble_eq_true rfl), (Nat.le_of_ble_eq_true rfl)⟩))) else (if c5 : a1 = 4 then V_tswJ (tgt := 101) (off := 100) 4 (tat ok_X9_count_0 (i := 1) (q := 40) rfl rfl) (swj c5) ⟨rfl, by decide⟩ rfl (V_aload_n (tat ok_X9_count_0 (i := 34) (q := 102) rfl rfl) 0 rfl rfl <|
    V_getI (tat ok_X9_count_0 (i := 35) (q := 105) rfl rfl) fk_X9_92 rfl <|
    V_iret (tat ok_X9_count_0 (i := 36) (q := 106) rfl rfl) _ rfl (nar_int _) (hr (I 33 21) (jx (P := oP P) kk (Eq.trans (if_neg c1) (Eq.trans (if_neg c2) (Eq.trans (if_neg c3) (Eq.trans (if_neg c4) (if_pos c5))))))) ⟨(Nat.le_of_ble_eq_true rfl), (Nat.le_of_ble_eq_true rfl)⟩) else (if c6 : a1 = 5 then V_tswJ (tgt := 106) (off := 105) 5 (tat ok_X9_count_0 (i := 1) (q := 40) rfl rfl) (swj c6) ⟨rfl, by decide⟩ rfl (V_aload_n (tat ok_X9_count_0 (i := 37) (q := 107) rfl rfl) 0 rfl rfl <|
    V_getR (tat ok_X9_count_0 (i := 38) (q := 110) rfl rfl) fk_X9_35 rfl rfl <|
    V_iconst (tat ok_X9_count_0 (i := 39) (q := 111) rfl rfl) ic_0 <|
    V_iald (tat ok_X9_count_1 (i := 0) (q := 112) rfl rfl) rfl (vp_in_nI (n := 0) (by decide) (by decide)) <|
    V_bipush (tat ok_X9_count_1 (i := 1) (q := 114) rfl rfl) bp_m4 <|
    V_icmp_ne (tat ok_X9_count_1 (i := 2) (q := 117) rfl rfl) rfl (fun c10 => V_aload_n (tat ok_X9_count_1 (i := 5) (q := 123) rfl rfl) 0 rfl rfl <|
    V_getR (tat ok_X9_count_1 (i := 6) (q := 126) rfl rfl) fk_X9_38 rfl rfl <|
    V_iconst (tat ok_X9_count_1 (i := 7) (q := 127) rfl rfl) ic_0 <|
    V_iald (tat ok_X9_count_1 (i := 8) (q := 128) rfl rfl) rfl (vp_in_nI (n := 0) (by decide) (by decide)) <|
    V_X9_count_128  hr (jx (P := oP P) kk (Eq.trans (if_neg c1) (Eq.trans (if_neg c2) (Eq.trans (if_neg c3) (Eq.trans (if_neg c4) (Eq.trans (if_neg c5) (Eq.trans (if_pos c6) (if_neg c10))))))))) (fun c10 => V_bipush (tat ok_X9_count_1 (i := 3) (q := 119) rfl rfl) bp_m4 <|
    V_goto (tat ok_X9_count_1 (i := 4) (q := 122) rfl rfl) rfl <|
    V_X9_count_128  hr (jx (P := oP P) kk (Eq.trans (if_neg c1) (Eq.trans (if_neg c2) (Eq.trans (if_neg c3) (Eq.trans (if_neg c4) (Eq.trans (if_neg c5) (Eq.trans (if_pos c6) (if_pos c10)))))))))) else V_tswD (tgt := 129) (tat ok_X9_count_0 (i := 1) (q := 40) rfl rfl) (sw6 c1 c2 c3 c4 c5 c6) rfl (V_iconst (tat ok_X9_count_1 (i := 10) (q := 130) rfl rfl) ic_m1 <|
    V_iret (tat ok_X9_count_1 (i := 11) (q := 131) rfl rfl) _ rfl (nar_int _) (hr (-1) (jx (P := oP P) kk (Eq.trans (if_neg c1) (Eq.trans (if_neg c2) (Eq.trans (if_neg c3) (Eq.trans (if_neg c4) (Eq.trans (if_neg c5) (if_neg c6)))))))) ⟨(Nat.le_of_ble_eq_true rfl), (Nat.le_of_ble_eq_true rfl)⟩)))))))
theorem ct_X9_count  (I : WI) (L : WL) (a1 : Int32)  {v : Int32} (h : (F_X9_count I L a1) = some v) : Ct x_X9_count 2 [.ref 33, .int a1] ly0 I L R0 0 0 (some (.int v), ly0, I, L, R0) :=
  Ct_of_V mo_X9_count.1 (Nat.le_of_ble_eq_true rfl) (V_X9_count (P := fun x => x = v)  (fun _ e => by rw [e]) (by rw [h]; exact rfl))

