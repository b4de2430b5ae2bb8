def F_X9_findName_46_1 (I : WI) (L : WL) (a1 : Int64) (a3 : Int32) (a4 : Int32) (a5 : Int32) (a6 : Int32) (s0 : Int32) : (WI × WL) :=
  (if s0 < a6 then (F_X9_findName_116_1 I L a1 a3 a4 a5) else (if (I 33 40) = (-4) then (F_X9_findName_92_1 I L a1 a3 a4 a5 a6 s0 (F_X9_formOf (F_X9_rotated a1 a3 a4 a5) a6 s0)) else (if 0 ≤ (lg_cmp (F_X9_formOf (F_X9_rotated a1 a3 a4 a5) a6 s0) (L 33 39)) then (F_X9_findName_116_1 I L a1 a3 a4 a5) else (F_X9_findName_92_1 I L a1 a3 a4 a5 a6 s0 (F_X9_formOf (F_X9_rotated a1 a3 a4 a5) a6 s0)))))
theorem V_X9_findName_46_1  {I : WI} {L : WL} {a1 : Int64} {a3 : Int32} {a4 : Int32} {a5 : Int32} {a6 : Int32} {s0 : Int32} {P : (WI × WL) → Prop} {t : Tg} (hk : ∀ x : (WI × WL), P x → V (zM x_X9_findName 4 0 0 t) 9 [(0, .ref 33), (1, .long a1), (3, .int a3), (4, .int a4), (5, .int (a5 + 1))] [] ly0 (p1 x) (p2 x) R0 0 0) (kk : P (F_X9_findName_46_1 I L a1 a3 a4 a5 a6 s0)) : V (zM x_X9_findName 4 0 0 t) 46 [(0, .ref 33), (1, .long a1), (3, .int a3), (4, .int a4), (5, .int a5), (6, .int a6)] [.int s0] ly0 I L R0 0 0 :=
  V_istore (lv' := [(7, .int s0), (0, .ref 33), (1, .long a1), (3, .int a3), (4, .int a4), (5, .int a5), (6, .int a6)]) (tat ok_X9_findName_0 (i := 25) (q := 48) rfl rfl) (Nat.le_of_ble_eq_true rfl) rfl <|
    V_lload_n (tat ok_X9_findName_0 (i := 26) (q := 49) rfl rfl) 2 rfl rfl <|
    V_iload_n (tat ok_X9_findName_0 (i := 27) (q := 50) rfl rfl) 3 rfl rfl <|
    V_iload (tat ok_X9_findName_0 (i := 28) (q := 52) rfl rfl) 4 rfl <|
    V_iload (tat ok_X9_findName_0 (i := 29) (q := 54) rfl rfl) 5 rfl <|
    V_cs4 (ct_X9_rotated I L a1 a3 a4 a5 ) mo_X9_rotated (tat ok_X9_findName_0 (i := 30) (q := 57) rfl rfl) ml_X9_310 ⟨(Nat.le_of_ble_eq_true rfl), (Nat.le_of_ble_eq_true rfl)⟩ ⟨(Nat.le_of_ble_eq_true rfl), (Nat.le_of_ble_eq_true rfl)⟩ (Nat.le_of_ble_eq_true rfl) <|
    V_iload (tat ok_X9_findName_0 (i := 31) (q := 59) rfl rfl) 6 rfl <|
    V_iload (tat ok_X9_findName_0 (i := 32) (q := 61) rfl rfl) 0 rfl <|
    V_cs3 (ct_X9_formOf I L (F_X9_rotated a1 a3 a4 a5) a6 s0 ) mo_X9_formOf (tat ok_X9_findName_0 (i := 33) (q := 64) rfl rfl) ml_X9_227 ⟨(Nat.le_of_ble_eq_true rfl), (Nat.le_of_ble_eq_true rfl)⟩ ⟨(Nat.le_of_ble_eq_true rfl), (Nat.le_of_ble_eq_true rfl)⟩ (Nat.le_of_ble_eq_true rfl) <|
    V_lstore (lv' := [(8, .long (F_X9_formOf (F_X9_rotated a1 a3 a4 a5) a6 s0)), (7, .int s0), (0, .ref 33), (1, .long a1), (3, .int a3), (4, .int a4), (5, .int a5), (6, .int a6)]) (tat ok_X9_findName_0 (i := 34) (q := 66) rfl rfl) (Nat.le_of_ble_eq_true rfl) rfl <|
    V_iload (tat ok_X9_findName_0 (i := 35) (q := 68) rfl rfl) 7 rfl <|
    V_iload (tat ok_X9_findName_0 (i := 36) (q := 70) rfl rfl) 1 rfl <|
    V_icmp_gt (tat ok_X9_findName_0 (i := 37) (q := 73) rfl rfl) rfl (fun c3 => V_pick [2, 3, 4, 5, 6] rfl (V_X9_findName_116_1  hk (jx (P := P) kk (if_pos c3)))) (fun c3 => V_aload_n (tat ok_X9_findName_0 (i := 38) (q := 74) rfl rfl) 2 rfl rfl <|
    V_getI (tat ok_X9_findName_0 (i := 39) (q := 77) rfl rfl) fk_X9_317 rfl <|
    V_bipush (tat ok_X9_findName_1 (i := 0) (q := 79) rfl rfl) bp_m4 <|
    V_icmp_eq (tat ok_X9_findName_1 (i := 1) (q := 82) rfl rfl) rfl (fun c4 => V_pick [2, 3, 4, 5, 6, 7, 1, 0] rfl (V_X9_findName_92_1  hk (jx (P := P) kk (Eq.trans (if_neg c3) (if_pos c4))))) (fun c4 => V_lload (tat ok_X9_findName_1 (i := 2) (q := 84) rfl rfl) 0 rfl <|
    V_aload_n (tat ok_X9_findName_1 (i := 3) (q := 85) rfl rfl) 2 rfl rfl <|
    V_getL (tat ok_X9_findName_1 (i := 4) (q := 88) rfl rfl) fk_X9_320 rfl <|
    V_lcmp (tat ok_X9_findName_1 (i := 5) (q := 89) rfl rfl) <|
    V_if_ge (tat ok_X9_findName_1 (i := 6) (q := 92) rfl rfl) rfl (fun c5 => V_pick [2, 3, 4, 5, 6] rfl (V_X9_findName_116_1  hk (jx (P := P) kk (Eq.trans (if_neg c3) (Eq.trans (if_neg c4) (if_pos c5)))))) (fun c5 => V_pick [2, 3, 4, 5, 6, 7, 1, 0] rfl (V_X9_findName_92_1  hk (jx (P := P) kk (Eq.trans (if_neg c3) (Eq.trans (if_neg c4) (if_neg c5))))))))
def F_X9_findName_30_1 (I : WI) (L : WL) (a1 : Int64) (a3 : Int32) (a4 : Int32) (a5 : Int32) (s0 : Int32) : (WI × WL) :=
  (if (a5 - a5 / 2 * 2) = 1 then (F_X9_findName_46_1 I L a1 a3 a4 a5 s0 a3) else (F_X9_findName_46_1 I L a1 a3 a4 a5 s0 a4))
theorem V_X9_findName_30_1  {I : WI} {L : WL} {a1 : Int64} {a3 : Int32} {a4 : Int32} {a5 : Int32} {s0 : Int32} {P : (WI × WL) → Prop} {t : Tg} (hk : ∀ x : (WI × WL), P x → V (zM x_X9_findName 4 0 0 t) 9 [(0, .ref 33), (1, .long a1), (3, .int a3), (4, .int a4), (5, .int (a5 + 1))] [] ly0 (p1 x) (p2 x) R0 0 0) (kk : P (F_X9_findName_30_1 I L a1 a3 a4 a5 s0)) : V (zM x_X9_findName 4 0 0 t) 30 [(0, .ref 33), (1, .long a1), (3, .int a3), (4, .int a4), (5, .int a5)] [.int s0] ly0 I L R0 0 0 :=
  V_istore (lv' := [(6, .int s0), (0, .ref 33), (1, .long a1), (3, .int a3), (4, .int a4), (5, .int a5)]) (tat ok_X9_findName_0 (i := 16) (q := 32) rfl rfl) (Nat.le_of_ble_eq_true rfl) rfl <|
    V_iload (tat ok_X9_findName_0 (i := 17) (q := 34) rfl rfl) 5 rfl <|
    V_iconst (tat ok_X9_findName_0 (i := 18) (q := 35) rfl rfl) ic_2 <|
    V_irem (tat ok_X9_findName_0 (i := 19) (q := 36) rfl rfl) (by decide) <|
    V_iconst (tat ok_X9_findName_0 (i := 20) (q := 37) rfl rfl) ic_1 <|
    V_icmp_ne (tat ok_X9_findName_0 (i := 21) (q := 40) rfl rfl) rfl (fun c2 => V_iload (tat ok_X9_findName_0 (i := 24) (q := 46) rfl rfl) 4 rfl <|
    V_pick [1, 2, 3, 4, 5, 0] rfl (V_X9_findName_46_1  hk (jx (P := P) kk (if_neg c2)))) (fun c2 => V_iload_n (tat ok_X9_findName_0 (i := 22) (q := 41) rfl rfl) 3 rfl rfl <|
    V_goto (tat ok_X9_findName_0 (i := 23) (q := 44) rfl rfl) rfl <|
    V_pick [1, 2, 3, 4, 5, 0] rfl (V_X9_findName_46_1  hk (jx (P := P) kk (if_pos c2))))
def F_X9_findName_16_1 (I : WI) (L : WL) (a1 : Int64) (a3 : Int32) (a4 : Int32) (a5 : Int32) : (WI × WL) :=
  (if (a5 - a5 / 2 * 2) = 1 then (F_X9_findName_30_1 I L a1 a3 a4 a5 a4) else (F_X9_findName_30_1 I L a1 a3 a4 a5 a3))
theorem V_X9_findName_16_1  {I : WI} {L : WL} {a1 : Int64} {a3 : Int32} {a4 : Int32} {a5 : Int32}  {P : (WI × WL) → Prop} {t : Tg} (hk : ∀ x : (WI × WL), P x → V (zM x_X9_findName 4 0 0 t) 9 [(0, .ref 33), (1, .long a1), (3, .int a3), (4, .int a4), (5, .int (a5 + 1))] [] ly0 (p1 x) (p2 x) R0 0 0) (kk : P (F_X9_findName_16_1 I L a1 a3 a4 a5)) : V (zM x_X9_findName 4 0 0 t) 16 [(0, .ref 33), (1, .long a1), (3, .int a3), (4, .int a4), (5, .int a5)] [] ly0 I L R0 0 0 :=
  V_iload (tat ok_X9_findName_0 (i := 8) (q := 18) rfl rfl) 4 rfl <|
    V_iconst (tat ok_X9_findName_0 (i := 9) (q := 19) rfl rfl) ic_2 <|
    V_irem (tat ok_X9_findName_0 (i := 10) (q := 20) rfl rfl) (by decide) <|
    V_iconst (tat ok_X9_findName_0 (i := 11) (q := 21) rfl rfl) ic_1 <|
    V_icmp_ne (tat ok_X9_findName_0 (i := 12) (q := 24) rfl rfl) rfl (fun c1 => V_iload_n (tat ok_X9_findName_0 (i := 15) (q := 30) rfl rfl) 2 rfl rfl <|
    V_X9_findName_30_1  hk (jx (P := P) kk (if_neg c1))) (fun c1 => V_iload (tat ok_X9_findName_0 (i := 13) (q := 26) rfl rfl) 3 rfl <|
    V_goto (tat ok_X9_findName_0 (i := 14) (q := 29) rfl rfl) rfl <|
    V_X9_findName_30_1  hk (jx (P := P) kk (if_pos c1)))
def F_X9_findName_122 (I : WI) (L : WL) (a1 : Int64) (a3 : Int32) (a4 : Int32) : (WI × WL) :=
  (I, L)
theorem V_X9_findName_122  {I : WI} {L : WL} {a1 : Int64} {a3 : Int32} {a4 : Int32}  {P : (WI × WL) → Prop} {t : Tg} (hr : ∀ v, P v → t = (none, ly0, (p1 v), (p2 v), R0)) (kk : P (F_X9_findName_122 I L a1 a3 a4)) : V (zM x_X9_findName 4 0 0 t) 122 [(0, .ref 33), (1, .long a1), (3, .int a3), (4, .int a4)] [] ly0 I L R0 0 0 :=
  V_vret (tat ok_X9_findName_1 (i := 21) (q := 123) rfl rfl) rfl (hr (I, L) (jx (P := P) kk rfl)) ⟨(Nat.le_of_ble_eq_true rfl), (Nat.le_of_ble_eq_true rfl)⟩
def F_X9_findName_9 (I : WI) (L : WL) (a1 : Int64) (a3 : Int32) (a4 : Int32) (a5 : Int32) : (WI × WL) :=
  (fun q : Int32 × (WI × WL) => (F_X9_findName_122 (p1 (p2 q)) (p2 (p2 q)) a1 a3 a4)) (fr0 (fun i x => (F_X9_findName_16_1 (p1 x) (p2 x) a1 a3 a4 i)) 8 (fu a5 8) a5 (I, L))
theorem V_X9_findName_9  {I : WI} {L : WL} {a1 : Int64} {a3 : Int32} {a4 : Int32} {a5 : Int32} {P : (WI × WL) → Prop} {t : Tg} (hb5 : bz a5 = a5) (hr : ∀ v, P v → t = (none, ly0, (p1 v), (p2 v), R0)) (kk : P (F_X9_findName_9 I L a1 a3 a4 a5)) : V (zM x_X9_findName 4 0 0 t) 9 [(0, .ref 33), (1, .long a1), (3, .int a3), (4, .int a4), (5, .int a5)] [] ly0 I L R0 0 0 :=
  V_fr0 (fun i x => (F_X9_findName_16_1 (p1 x) (p2 x) a1 a3 a4 i)) 8 (fun i x => V (zM x_X9_findName 4 0 0 t) 9 [(0, .ref 33), (1, .long a1), (3, .int a3), (4, .int a4), (5, .int i)] [] ly0 (p1 x) (p2 x) R0 0 0) (fun i x => P ((F_X9_findName_122 (p1 x) (p2 x) a1 a3 a4))) (c := a5) (s := (I, L)) (fun i x kx kb => V_iload (tat ok_X9_findName_0 (i := 5) (q := 11) rfl rfl) 4 rfl <|
    V_bipush (tat ok_X9_findName_0 (i := 6) (q := 13) rfl rfl) bp_8 <|
    V_icmp_ge (tat ok_X9_findName_0 (i := 7) (q := 16) rfl rfl) rfl (fun c0 => V_pick [0, 1, 2, 3] rfl (V_X9_findName_122  hr (kx c0))) (fun c0 => V_X9_findName_16_1 (P := (fun x => (fun i x => V (zM x_X9_findName 4 0 0 t) 9 [(0, .ref 33), (1, .long a1), (3, .int a3), (4, .int a4), (5, .int i)] [] ly0 (p1 x) (p2 x) R0 0 0) (i + 1) x))  (fun _ e => e) (kb c0))) kk
def F_X9_findName (I : WI) (L : WL) (a1 : Int64) (a3 : Int32) (a4 : Int32) : (WI × WL) :=
  (F_X9_findName_9 (u2 I 33 40 (-4)) L a1 a3 a4 0)
theorem V_X9_findName  {I : WI} {L : WL} {a1 : Int64} {a3 : Int32} {a4 : Int32}  {P : (WI × WL) → Prop} {t : Tg} (hr : ∀ v, P v → t = (none, ly0, (p1 v), (p2 v), R0)) (kk : P (F_X9_findName I L a1 a3 a4)) : V (zM x_X9_findName 4 0 0 t) 0 [(0, .ref 33), (1, .long a1), (3, .int a3), (4, .int a4)] [] ly0 I L R0 0 0 :=
  V_aload_n (tat ok_X9_findName_0 (i := 0) (q := 1) rfl rfl) 0 rfl rfl <|
    V_bipush (tat ok_X9_findName_0 (i := 1) (q := 3) rfl rfl) bp_m4 <|
    V_putI (tat ok_X9_findName_0 (i := 2) (q := 6) rfl rfl) fk_X9_317 rfl rfl <|
    V_iconst (tat ok_X9_findName_0 (i := 3) (q := 7) rfl rfl) ic_0 <|
    V_istore (lv' := [(5, .int 0), (0, .ref 33), (1, .long a1), (3, .int a3), (4, .int a4)]) (tat ok_X9_findName_0 (i := 4) (q := 9) rfl rfl) (Nat.le_of_ble_eq_true rfl) rfl <|
    V_pick [1, 2, 3, 4, 0] rfl (V_X9_findName_9 rfl hr (jx (P := P) kk rfl))
theorem ct_X9_findName  (I : WI) (L : WL) (a1 : Int64) (a3 : Int32) (a4 : Int32)  : Ct x_X9_findName 4 [.ref 33, .long a1, .int a3, .int a4] ly0 I L R0 0 0 (none, ly0, (p1 (F_X9_findName I L a1 a3 a4)), (p2 (F_X9_findName I L a1 a3 a4)), R0) :=
  Ct_of_V mo_X9_findName.1 (Nat.le_of_ble_eq_true rfl) (V_X9_findName (P := fun x => x = (F_X9_findName I L a1 a3 a4))  (fun _ e => by rw [e]) rfl)
def F_X9_name_46 (I : WI) (L : WL) (a1 : Int32) (s0 : Int64) : (Int64 × WI × WL) :=
  (s0, I, L)
theorem V_X9_name_46  {I : WI} {L : WL} {a1 : Int32} {s0 : Int64} {P : (Int64 × WI × WL) → Prop} {t : Tg} (hr : ∀ v, P v → t = (some (.long (p1 v)), ly0, (p1 (p2 v)), (p2 (p2 v)), R0)) (kk : P (F_X9_name_46 I L a1 s0)) : V (zM x_X9_name 5 0 0 t) 46 [(0, .ref 33), (1, .int a1)] [.long s0] ly0 I L R0 0 0 :=
  V_lret (tat ok_X9_name_0 (i := 24) (q := 47) rfl rfl) rfl (hr (s0, I, L) (jx (P := P) kk rfl)) ⟨(Nat.le_of_ble_eq_true rfl), (Nat.le_of_ble_eq_true rfl)⟩
def F_X9_name (I : WI) (L : WL) (a1 : Int32) : (Int64 × WI × WL) :=
  (if (F_X9_in (Int32.toInt64 a1) 0 1) = 0 then ((-1), I, L) else (if a1 = 0 then (F_X9_name_46 (p1 (F_X9_findName I L (L 33 2) (I 33 0) (I 33 1))) (p2 (F_X9_findName I L (L 33 2) (I 33 0) (I 33 1))) a1 ((p2 (F_X9_findName I L (L 33 2) (I 33 0) (I 33 1))) 33 39)) else (F_X9_name_46 (p1 (F_X9_findName I L (L 33 2) (I 33 0) (I 33 1))) (p2 (F_X9_findName I L (L 33 2) (I 33 0) (I 33 1))) a1 (Int32.toInt64 ((p1 (F_X9_findName I L (L 33 2) (I 33 0) (I 33 1))) 33 40)))))
theorem V_X9_name  {I : WI} {L : WL} {a1 : Int32}  {P : (Int64 × WI × WL) → Prop} {t : Tg} (hr : ∀ v, P v → t = (some (.long (p1 v)), ly0, (p1 (p2 v)), (p2 (p2 v)), R0)) (kk : P (F_X9_name I L a1)) : V (zM x_X9_name 5 0 0 t) 0 [(0, .ref 33), (1, .int a1)] [] ly0 I L R0 0 0 :=
  V_iload_n (tat ok_X9_name_0 (i := 0) (q := 1) rfl rfl) 1 rfl rfl <|
    V_i2l (tat ok_X9_name_0 (i := 1) (q := 2) rfl rfl) <|
    V_lconst (v := 0) (tat ok_X9_name_0 (i := 2) (q := 3) rfl rfl) rfl <|
    V_lconst (v := 1) (tat ok_X9_name_0 (i := 3) (q := 4) rfl rfl) rfl <|
    V_cs3 (ct_X9_in I L (Int32.toInt64 a1) 0 1 ) mo_X9_in (tat ok_X9_name_0 (i := 4) (q := 7) rfl rfl) ml_X9_97 ⟨(Nat.le_of_ble_eq_true rfl), (Nat.le_of_ble_eq_true rfl)⟩ ⟨(Nat.le_of_ble_eq_true rfl), (Nat.le_of_ble_eq_true rfl)⟩ (Nat.le_of_ble_eq_true rfl) <|
    V_if_ne (tat ok_X9_name_0 (i := 5) (q := 10) rfl rfl) rfl (fun c1 => V_aload_n (tat ok_X9_name_0 (i := 8) (q := 15) rfl rfl) 0 rfl rfl <|
    V_aload_n (tat ok_X9_name_0 (i := 9) (q := 16) rfl rfl) 0 rfl rfl <|
    V_getL (tat ok_X9_name_0 (i := 10) (q := 19) rfl rfl) fk_X9_80 rfl <|
    V_aload_n (tat ok_X9_name_0 (i := 11) (q := 20) rfl rfl) 0 rfl rfl <|
    V_getI (tat ok_X9_name_0 (i := 12) (q := 23) rfl rfl) fk_X9_74 rfl <|
    V_aload_n (tat ok_X9_name_0 (i := 13) (q := 24) rfl rfl) 0 rfl rfl <|
    V_getI (tat ok_X9_name_0 (i := 14) (q := 27) rfl rfl) fk_X9_77 rfl <|
    V_cv3v (ct_X9_findName I L (L 33 2) (I 33 0) (I 33 1) ) mo_X9_findName (tat ok_X9_name_0 (i := 15) (q := 30) rfl rfl) ml_X9_329 rfl ⟨by decide, _, rfl, rfl⟩ ⟨(Nat.le_of_ble_eq_true rfl), (Nat.le_of_ble_eq_true rfl)⟩ ⟨(Nat.le_of_ble_eq_true rfl), (Nat.le_of_ble_eq_true rfl)⟩ (Nat.le_of_ble_eq_true rfl) <|
    V_iload_n (tat ok_X9_name_0 (i := 16) (q := 31) rfl rfl) 1 rfl rfl <|
    V_if_ne (tat ok_X9_name_0 (i := 17) (q := 34) rfl rfl) rfl (fun c2 => V_aload_n (tat ok_X9_name_0 (i := 21) (q := 42) rfl rfl) 0 rfl rfl <|
    V_getI (tat ok_X9_name_0 (i := 22) (q := 45) rfl rfl) fk_X9_317 rfl <|
    V_i2l (tat ok_X9_name_0 (i := 23) (q := 46) rfl rfl) <|
    V_X9_name_46  hr (jx (P := P) kk (Eq.trans (if_neg c1) (if_neg c2)))) (fun c2 => V_aload_n (tat ok_X9_name_0 (i := 18) (q := 35) rfl rfl) 0 rfl rfl <|
    V_getL (tat ok_X9_name_0 (i := 19) (q := 38) rfl rfl) fk_X9_320 rfl <|
    V_goto (tat ok_X9_name_0 (i := 20) (q := 41) rfl rfl) rfl <|
    V_X9_name_46  hr (jx (P := P) kk (Eq.trans (if_neg c1) (if_pos c2))))) (fun c1 => V_ldc2 (tat ok_X9_name_0 (i := 6) (q := 13) rfl rfl) (gw_in kl_X9_204 rfl) <|
    V_lret (tat ok_X9_name_0 (i := 7) (q := 14) rfl rfl) rfl (hr ((-1), I, L) (jx (P := P) kk (if_pos c1))) ⟨(Nat.le_of_ble_eq_true rfl), (Nat.le_of_ble_eq_true rfl)⟩)
