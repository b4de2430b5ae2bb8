theorem V_X8_sew_83  {I : WI} {L : WL} {a1 : Int32} {a2 : Int32} {r3 : Nat} {s0 : Int32} {P : (Int32 × WI × WL) → Prop} {t : Tg} (hr3 : isX0 r3) (hr : ∀ v, P v → t = (some (.int (p1 v)), ly0, (p1 (p2 v)), (p2 (p2 v)), R0)) (kk : P (F_X8_sew_83 I L a1 a2 r3 s0)) : V (zM x_X8_sew 4 0 0 t) 83 [(0, .ref 0), (1, .int a1), (2, .int a2), (3, .ref r3)] [.int s0] ly0 I L R0 0 0 :=
  V_istore (lv' := [(4, .int s0), (0, .ref 0), (1, .int a1), (2, .int a2), (3, .ref r3)]) (tat ok_X8_sew_1 (i := 0) (q := 85) rfl rfl) (Nat.le_of_ble_eq_true rfl) rfl <|
    V_iload_n (tat ok_X8_sew_1 (i := 1) (q := 86) rfl rfl) 3 rfl rfl <|
    V_if_eq (tat ok_X8_sew_1 (i := 2) (q := 89) rfl rfl) rfl (fun c7 => V_aload_n (tat ok_X8_sew_1 (i := 7) (q := 100) rfl rfl) 1 rfl rfl <|
    V_getR (tat ok_X8_sew_1 (i := 8) (q := 103) rfl rfl) fk_X8_14 rfl rfl <|
    V_getI (tat ok_X8_sew_1 (i := 9) (q := 106) rfl rfl) fk_X8_120 rfl <|
    V_aload_n (tat ok_X8_sew_1 (i := 10) (q := 107) rfl rfl) 4 rfl rfl <|
    V_getI (tat ok_X8_sew_1 (i := 11) (q := 110) rfl rfl) fk_X8_120 hr3 <|
    V_iadd (tat ok_X8_sew_1 (i := 12) (q := 111) rfl rfl) <|
    V_pick [1, 2, 3, 4, 0] rfl (V_X8_sew_111 hr3 hr (jx (P := P) kk (if_pos c7)))) (fun c7 => V_aload_n (tat ok_X8_sew_1 (i := 3) (q := 90) rfl rfl) 1 rfl rfl <|
    V_getR (tat ok_X8_sew_1 (i := 4) (q := 93) rfl rfl) fk_X8_14 rfl rfl <|
    V_getI (tat ok_X8_sew_1 (i := 5) (q := 96) rfl rfl) fk_X8_120 rfl <|
    V_goto (tat ok_X8_sew_1 (i := 6) (q := 99) rfl rfl) rfl <|
    V_pick [1, 2, 3, 4, 0] rfl (V_X8_sew_111 hr3 hr (jx (P := P) kk (if_neg c7))))
def F_X8_sew_57 (I : WI) (L : WL) (a1 : Int32) (a2 : Int32) (r3 : Nat) : (Int32 × WI × WL) :=
  (if a2 = 0 then (F_X8_sew_83 I L a1 a2 r3 (I 1 1)) else (F_X8_sew_83 I L a1 a2 r3 ((I 1 1) + (I r3 1))))
theorem V_X8_sew_57  {I : WI} {L : WL} {a1 : Int32} {a2 : Int32} {r3 : Nat} {P : (Int32 × WI × WL) → Prop} {t : Tg} (hr3 : isX0 r3) (hr : ∀ v, P v → t = (some (.int (p1 v)), ly0, (p1 (p2 v)), (p2 (p2 v)), R0)) (kk : P (F_X8_sew_57 I L a1 a2 r3)) : V (zM x_X8_sew 4 0 0 t) 57 [(0, .ref 0), (1, .int a1), (2, .int a2), (3, .ref r3)] [] ly0 I L R0 0 0 :=
  V_iload_n (tat ok_X8_sew_0 (i := 28) (q := 58) rfl rfl) 2 rfl rfl <|
    V_if_eq (tat ok_X8_sew_0 (i := 29) (q := 61) rfl rfl) rfl (fun c6 => V_aload_n (tat ok_X8_sew_0 (i := 37) (q := 77) rfl rfl) 0 rfl rfl <|
    V_getR (tat ok_X8_sew_0 (i := 38) (q := 80) rfl rfl) fk_X8_14 rfl rfl <|
    V_getI (tat ok_X8_sew_0 (i := 39) (q := 83) rfl rfl) fk_X8_117 rfl <|
    V_X8_sew_83 hr3 hr (jx (P := P) kk (if_pos c6))) (fun c6 => V_aload_n (tat ok_X8_sew_0 (i := 30) (q := 62) rfl rfl) 0 rfl rfl <|
    V_getR (tat ok_X8_sew_0 (i := 31) (q := 65) rfl rfl) fk_X8_14 rfl rfl <|
    V_getI (tat ok_X8_sew_0 (i := 32) (q := 68) rfl rfl) fk_X8_117 rfl <|
    V_aload_n (tat ok_X8_sew_0 (i := 33) (q := 69) rfl rfl) 3 rfl rfl <|
    V_getI (tat ok_X8_sew_0 (i := 34) (q := 72) rfl rfl) fk_X8_117 hr3 <|
    V_iadd (tat ok_X8_sew_0 (i := 35) (q := 73) rfl rfl) <|
    V_goto (tat ok_X8_sew_0 (i := 36) (q := 76) rfl rfl) rfl <|
    V_X8_sew_83 hr3 hr (jx (P := P) kk (if_neg c6)))
def F_X8_sew (I : WI) (L : WL) (a1 : Int32) (a2 : Int32) : (Int32 × WI × WL) :=
  (if a1 = 0 then (if (bz (I 3 0)) = 0 then (F_X8_sew_54 I L a1 a2) else (if a2 = 0 then (if (I 3 1) = (I 1 1) then (F_X8_sew_57 I L a1 a2 3) else (F_X8_sew_54 I L a1 a2)) else (if (I 3 2) = (I 1 2) then (F_X8_sew_57 I L a1 a2 3) else (F_X8_sew_54 I L a1 a2)))) else (if a1 = 1 then (if (bz (I 4 0)) = 0 then (F_X8_sew_54 I L a1 a2) else (if a2 = 0 then (if (I 4 1) = (I 1 1) then (F_X8_sew_57 I L a1 a2 4) else (F_X8_sew_54 I L a1 a2)) else (if (I 4 2) = (I 1 2) then (F_X8_sew_57 I L a1 a2 4) else (F_X8_sew_54 I L a1 a2)))) else ((-1), I, L)))
theorem V_X8_sew  {I : WI} {L : WL} {a1 : Int32} {a2 : Int32}  {P : (Int32 × WI × WL) → Prop} {t : Tg} (hr : ∀ v, P v → t = (some (.int (p1 v)), ly0, (p1 (p2 v)), (p2 (p2 v)), R0)) (kk : P (F_X8_sew I L a1 a2)) : V (zM x_X8_sew 4 0 0 t) 0 [(0, .ref 0), (1, .int a1), (2, .int a2)] [] ly0 I L R0 0 0 :=
  V_aload_n (tat ok_X8_sew_0 (i := 0) (q := 1) rfl rfl) 0 rfl rfl <|
    V_iload_n (tat ok_X8_sew_0 (i := 1) (q := 2) rfl rfl) 1 rfl rfl <|
    (if c1 : a1 = 0 then V_cv1 (ct_img0 I L a1 c1) mo_X8_imageOf (tat ok_X8_sew_0 (i := 2) (q := 5) rfl rfl) ml_X8_183 rfl ⟨by decide, _, rfl, rfl⟩ ⟨(Nat.le_of_ble_eq_true rfl), (Nat.le_of_ble_eq_true rfl)⟩ ⟨(Nat.le_of_ble_eq_true rfl), (Nat.le_of_ble_eq_true rfl)⟩ (Nat.le_of_ble_eq_true rfl) <|
    V_astore_n (lv' := [(3, .ref 3), (0, .ref 0), (1, .int a1), (2, .int a2)]) (tat ok_X8_sew_0 (i := 3) (q := 6) rfl rfl) rfl (by decide) (Nat.le_of_ble_eq_true rfl) rfl <|
    V_aload_n (tat ok_X8_sew_0 (i := 4) (q := 7) rfl rfl) 0 rfl rfl <|
    V_ifnonnull (tat ok_X8_sew_0 (i := 5) (q := 10) rfl rfl) (by decide) rfl <|
    V_aload_n (tat ok_X8_sew_0 (i := 8) (q := 13) rfl rfl) 0 rfl rfl <|
    V_getZ (tat ok_X8_sew_0 (i := 9) (q := 16) rfl rfl) fk_X8_106 rfl <|
    V_if_eq (tat ok_X8_sew_0 (i := 10) (q := 19) rfl rfl) rfl (fun c3 => V_pick [1, 2, 3] rfl (V_X8_sew_54  hr (jx (P := P) kk (Eq.trans (if_pos c1) (if_pos c3))))) (fun c3 => V_iload_n (tat ok_X8_sew_0 (i := 11) (q := 20) rfl rfl) 3 rfl rfl <|
    V_if_eq (tat ok_X8_sew_0 (i := 12) (q := 23) rfl rfl) rfl (fun c4 => V_aload_n (tat ok_X8_sew_0 (i := 20) (q := 41) rfl rfl) 0 rfl rfl <|
    V_getI (tat ok_X8_sew_0 (i := 21) (q := 44) rfl rfl) fk_X8_117 rfl <|
    V_aload_n (tat ok_X8_sew_0 (i := 22) (q := 45) rfl rfl) 1 rfl rfl <|
    V_getR (tat ok_X8_sew_0 (i := 23) (q := 48) rfl rfl) fk_X8_14 rfl rfl <|
    V_getI (tat ok_X8_sew_0 (i := 24) (q := 51) rfl rfl) fk_X8_117 rfl <|
    V_icmp_eq (tat ok_X8_sew_0 (i := 25) (q := 54) rfl rfl) rfl (fun c5 => V_pick [1, 2, 3, 0] rfl (V_X8_sew_57 rfl hr (jx (P := P) kk (Eq.trans (if_pos c1) (Eq.trans (if_neg c3) (Eq.trans (if_pos c4) (if_pos c5))))))) (fun c5 => V_pick [1, 2, 3] rfl (V_X8_sew_54  hr (jx (P := P) kk (Eq.trans (if_pos c1) (Eq.trans (if_neg c3) (Eq.trans (if_pos c4) (if_neg c5)))))))) (fun c4 => V_aload_n (tat ok_X8_sew_0 (i := 13) (q := 24) rfl rfl) 0 rfl rfl <|
    V_getI (tat ok_X8_sew_0 (i := 14) (q := 27) rfl rfl) fk_X8_120 rfl <|
    V_aload_n (tat ok_X8_sew_0 (i := 15) (q := 28) rfl rfl) 1 rfl rfl <|
    V_getR (tat ok_X8_sew_0 (i := 16) (q := 31) rfl rfl) fk_X8_14 rfl rfl <|
    V_getI (tat ok_X8_sew_0 (i := 17) (q := 34) rfl rfl) fk_X8_120 rfl <|
    V_icmp_eq (tat ok_X8_sew_0 (i := 18) (q := 37) rfl rfl) rfl (fun c11 => V_pick [1, 2, 3, 0] rfl (V_X8_sew_57 rfl hr (jx (P := P) kk (Eq.trans (if_pos c1) (Eq.trans (if_neg c3) (Eq.trans (if_neg c4) (if_pos c11))))))) (fun c11 => V_goto (tat ok_X8_sew_0 (i := 19) (q := 40) rfl rfl) rfl <|
    V_pick [1, 2, 3] rfl (V_X8_sew_54  hr (jx (P := P) kk (Eq.trans (if_pos c1) (Eq.trans (if_neg c3) (Eq.trans (if_neg c4) (if_neg c11))))))))) else (if c2 : a1 = 1 then V_cv1 (ct_img1 I L a1 c2) mo_X8_imageOf (tat ok_X8_sew_0 (i := 2) (q := 5) rfl rfl) ml_X8_183 rfl ⟨by decide, _, rfl, rfl⟩ ⟨(Nat.le_of_ble_eq_true rfl), (Nat.le_of_ble_eq_true rfl)⟩ ⟨(Nat.le_of_ble_eq_true rfl), (Nat.le_of_ble_eq_true rfl)⟩ (Nat.le_of_ble_eq_true rfl) <|
    V_astore_n (lv' := [(3, .ref 4), (0, .ref 0), (1, .int a1), (2, .int a2)]) (tat ok_X8_sew_0 (i := 3) (q := 6) rfl rfl) rfl (by decide) (Nat.le_of_ble_eq_true rfl) rfl <|
    V_aload_n (tat ok_X8_sew_0 (i := 4) (q := 7) rfl rfl) 0 rfl rfl <|
    V_ifnonnull (tat ok_X8_sew_0 (i := 5) (q := 10) rfl rfl) (by decide) rfl <|
    V_aload_n (tat ok_X8_sew_0 (i := 8) (q := 13) rfl rfl) 0 rfl rfl <|
    V_getZ (tat ok_X8_sew_0 (i := 9) (q := 16) rfl rfl) fk_X8_106 rfl <|
    V_if_eq (tat ok_X8_sew_0 (i := 10) (q := 19) rfl rfl) rfl (fun c12 => V_pick [1, 2, 3] rfl (V_X8_sew_54  hr (jx (P := P) kk (Eq.trans (if_neg c1) (Eq.trans (if_pos c2) (if_pos c12)))))) (fun c12 => V_iload_n (tat ok_X8_sew_0 (i := 11) (q := 20) rfl rfl) 3 rfl rfl <|
    V_if_eq (tat ok_X8_sew_0 (i := 12) (q := 23) rfl rfl) rfl (fun c13 => V_aload_n (tat ok_X8_sew_0 (i := 20) (q := 41) rfl rfl) 0 rfl rfl <|
    V_getI (tat ok_X8_sew_0 (i := 21) (q := 44) rfl rfl) fk_X8_117 rfl <|
    V_aload_n (tat ok_X8_sew_0 (i := 22) (q := 45) rfl rfl) 1 rfl rfl <|
    V_getR (tat ok_X8_sew_0 (i := 23) (q := 48) rfl rfl) fk_X8_14 rfl rfl <|
    V_getI (tat ok_X8_sew_0 (i := 24) (q := 51) rfl rfl) fk_X8_117 rfl <|
    V_icmp_eq (tat ok_X8_sew_0 (i := 25) (q := 54) rfl rfl) rfl (fun c14 => V_pick [1, 2, 3, 0] rfl (V_X8_sew_57 rfl hr (jx (P := P) kk (Eq.trans (if_neg c1) (Eq.trans (if_pos c2) (Eq.trans (if_neg c12) (Eq.trans (if_pos c13) (if_pos c14)))))))) (fun c14 => V_pick [1, 2, 3] rfl (V_X8_sew_54  hr (jx (P := P) kk (Eq.trans (if_neg c1) (Eq.trans (if_pos c2) (Eq.trans (if_neg c12) (Eq.trans (if_pos c13) (if_neg c14))))))))) (fun c13 => V_aload_n (tat ok_X8_sew_0 (i := 13) (q := 24) rfl rfl) 0 rfl rfl <|
    V_getI (tat ok_X8_sew_0 (i := 14) (q := 27) rfl rfl) fk_X8_120 rfl <|
    V_aload_n (tat ok_X8_sew_0 (i := 15) (q := 28) rfl rfl) 1 rfl rfl <|
    V_getR (tat ok_X8_sew_0 (i := 16) (q := 31) rfl rfl) fk_X8_14 rfl rfl <|
    V_getI (tat ok_X8_sew_0 (i := 17) (q := 34) rfl rfl) fk_X8_120 rfl <|
    V_icmp_eq (tat ok_X8_sew_0 (i := 18) (q := 37) rfl rfl) rfl (fun c15 => V_pick [1, 2, 3, 0] rfl (V_X8_sew_57 rfl hr (jx (P := P) kk (Eq.trans (if_neg c1) (Eq.trans (if_pos c2) (Eq.trans (if_neg c12) (Eq.trans (if_neg c13) (if_pos c15)))))))) (fun c15 => V_goto (tat ok_X8_sew_0 (i := 19) (q := 40) rfl rfl) rfl <|
    V_pick [1, 2, 3] rfl (V_X8_sew_54  hr (jx (P := P) kk (Eq.trans (if_neg c1) (Eq.trans (if_pos c2) (Eq.trans (if_neg c12) (Eq.trans (if_neg c13) (if_neg c15)))))))))) else V_cv1 (ct_imgN I L a1 c1 c2) mo_X8_imageOf (tat ok_X8_sew_0 (i := 2) (q := 5) rfl rfl) ml_X8_183 rfl ⟨by decide, _, rfl, rfl⟩ ⟨(Nat.le_of_ble_eq_true rfl), (Nat.le_of_ble_eq_true rfl)⟩ ⟨(Nat.le_of_ble_eq_true rfl), (Nat.le_of_ble_eq_true rfl)⟩ (Nat.le_of_ble_eq_true rfl) <|
    V_astoreN_n (lv' := [(3, .null), (0, .ref 0), (1, .int a1), (2, .int a2)]) (tat ok_X8_sew_0 (i := 3) (q := 6) rfl rfl) rfl (Nat.le_of_ble_eq_true rfl) rfl <|
    V_aloadN_n (tat ok_X8_sew_0 (i := 4) (q := 7) rfl rfl) 0 rfl rfl <|
    V_ifnonnullN (tat ok_X8_sew_0 (i := 5) (q := 10) rfl rfl) <|
    V_iconst (tat ok_X8_sew_0 (i := 6) (q := 11) rfl rfl) ic_m1 <|
    V_iret (tat ok_X8_sew_0 (i := 7) (q := 12) rfl rfl) _ rfl (nar_int _) (hr ((-1), I, L) (jx (P := P) kk (Eq.trans (if_neg c1) (if_neg c2)))) ⟨(Nat.le_of_ble_eq_true rfl), (Nat.le_of_ble_eq_true rfl)⟩))
theorem ct_X8_sew  (I : WI) (L : WL) (a1 : Int32) (a2 : Int32)  : Ct x_X8_sew 4 [.ref 0, .int a1, .int a2] ly0 I L R0 0 0 (some (.int (p1 (F_X8_sew I L a1 a2))), ly0, (p1 (p2 (F_X8_sew I L a1 a2))), (p2 (p2 (F_X8_sew I L a1 a2))), R0) :=
  Ct_of_V mo_X8_sew.1 (Nat.le_of_ble_eq_true rfl) (V_X8_sew (P := fun x => x = (F_X8_sew I L a1 a2))  (fun _ e => by rw [e]) rfl)
def F_X8_name_9 (I : WI) (L : WL) (a1 : Int32) : (Int64 × WI × WL) :=
  ((-1), I, L)
theorem V_X8_name_9  {I : WI} {L : WL} {a1 : Int32}  {P : (Int64 × WI × WL) → Prop} {t : Tg} (hr : ∀ v, P v → t = (some (.long (p1 v)), ly0, (p1 (p2 v)), (p2 (p2 v)), R0)) (kk : P (F_X8_name_9 I L a1)) : V (zM x_X8_name 7 0 0 t) 9 [(0, .ref 0), (1, .int a1)] [] ly0 I L R0 0 0 :=
  V_ldc2 (tat ok_X8_name_0 (i := 5) (q := 12) rfl rfl) (gw_in kl_X8_181 rfl) <|
    V_lret (tat ok_X8_name_0 (i := 6) (q := 13) rfl rfl) rfl (hr ((-1), I, L) (jx (P := P) kk rfl)) ⟨(Nat.le_of_ble_eq_true rfl), (Nat.le_of_ble_eq_true rfl)⟩
def F_X8_name_50 (I : WI) (L : WL) (a1 : Int32) (s0 : Int64) : (Int64 × WI × WL) :=
  (s0, I, L)
theorem V_X8_name_50  {I : WI} {L : WL} {a1 : Int32} {s0 : Int64} {P : (Int64 × WI × WL) → Prop} {t : Tg} (hr : ∀ v, P v → t = (some (.long (p1 v)), ly0, (p1 (p2 v)), (p2 (p2 v)), R0)) (kk : P (F_X8_name_50 I L a1 s0)) : V (zM x_X8_name 7 0 0 t) 50 [(0, .ref 0), (1, .int a1)] [.long s0] ly0 I L R0 0 0 :=
  V_lret (tat ok_X8_name_0 (i := 24) (q := 51) rfl rfl) rfl (hr (s0, I, L) (jx (P := P) kk rfl)) ⟨(Nat.le_of_ble_eq_true rfl), (Nat.le_of_ble_eq_true rfl)⟩
def F_X8_name (I : WI) (L : WL) (a1 : Int32) : (Int64 × WI × WL) :=
  (if a1 < 0 then (F_X8_name_9 I L a1) else (if a1 ≤ 1 then (if a1 = 0 then (F_X8_name_50 (p1 (F_X2_find I L 30 1 5)) (p2 (F_X2_find I L 30 1 5)) a1 ((p2 (F_X2_find I L 30 1 5)) 30 2)) else (F_X8_name_50 (p1 (F_X2_find I L 30 1 5)) (p2 (F_X2_find I L 30 1 5)) a1 (Int32.toInt64 ((p1 (F_X2_find I L 30 1 5)) 30 3)))) else (F_X8_name_9 I L a1)))
theorem V_X8_name  {I : WI} {L : WL} {a1 : Int32}  {P : (Int64 × WI × WL) → Prop} {t : Tg} (hr : ∀ v, P v → t = (some (.long (p1 v)), ly0, (p1 (p2 v)), (p2 (p2 v)), R0)) (kk : P (F_X8_name I L a1)) : V (zM x_X8_name 7 0 0 t) 0 [(0, .ref 0), (1, .int a1)] [] ly0 I L R0 0 0 :=
  V_iload_n (tat ok_X8_name_0 (i := 0) (q := 1) rfl rfl) 1 rfl rfl <|
    V_if_lt (tat ok_X8_name_0 (i := 1) (q := 4) rfl rfl) rfl (fun c1 => V_X8_name_9  hr (jx (P := P) kk (if_pos c1))) (fun c1 => V_iload_n (tat ok_X8_name_0 (i := 2) (q := 5) rfl rfl) 1 rfl rfl <|
    V_iconst (tat ok_X8_name_0 (i := 3) (q := 6) rfl rfl) ic_1 <|
    V_icmp_le (tat ok_X8_name_0 (i := 4) (q := 9) rfl rfl) rfl (fun c2 => V_aload_n (tat ok_X8_name_0 (i := 7) (q := 14) rfl rfl) 0 rfl rfl <|
    V_getR (tat ok_X8_name_0 (i := 8) (q := 17) rfl rfl) fk_X8_70 rfl rfl <|
    V_aload_n (tat ok_X8_name_0 (i := 9) (q := 18) rfl rfl) 0 rfl rfl <|
    V_getR (tat ok_X8_name_0 (i := 10) (q := 21) rfl rfl) fk_X8_14 rfl rfl <|
    V_aload_n (tat ok_X8_name_0 (i := 11) (q := 22) rfl rfl) 0 rfl rfl <|
    V_getR (tat ok_X8_name_0 (i := 12) (q := 25) rfl rfl) fk_X8_27 rfl rfl <|
    V_cv2v (ct_X2_find I L 30 1 5 rfl rfl rfl) mo_X2_find (tat ok_X8_name_0 (i := 13) (q := 28) rfl rfl) ml_X8_272 rfl ⟨by decide, _, rfl, rfl⟩ ⟨(Nat.le_of_ble_eq_true rfl), (Nat.le_of_ble_eq_true rfl)⟩ ⟨(Nat.le_of_ble_eq_true rfl), (Nat.le_of_ble_eq_true rfl)⟩ (Nat.le_of_ble_eq_true rfl) <|
    V_iload_n (tat ok_X8_name_0 (i := 14) (q := 29) rfl rfl) 1 rfl rfl <|
    V_if_ne (tat ok_X8_name_0 (i := 15) (q := 32) rfl rfl) rfl (fun c3 => V_aload_n (tat ok_X8_name_0 (i := 20) (q := 43) rfl rfl) 0 rfl rfl <|
    V_getR (tat ok_X8_name_0 (i := 21) (q := 46) rfl rfl) fk_X8_70 rfl rfl <|
    V_getI (tat ok_X8_name_0 (i := 22) (q := 49) rfl rfl) fk_X8_279 rfl <|
    V_i2l (tat ok_X8_name_0 (i := 23) (q := 50) rfl rfl) <|
    V_X8_name_50  hr (jx (P := P) kk (Eq.trans (if_neg c1) (Eq.trans (if_pos c2) (if_neg c3))))) (fun c3 => V_aload_n (tat ok_X8_name_0 (i := 16) (q := 33) rfl rfl) 0 rfl rfl <|
    V_getR (tat ok_X8_name_0 (i := 17) (q := 36) rfl rfl) fk_X8_70 rfl rfl <|
    V_getL (tat ok_X8_name_0 (i := 18) (q := 39) rfl rfl) fk_X8_276 rfl <|
    V_goto (tat ok_X8_name_0 (i := 19) (q := 42) rfl rfl) rfl <|
    V_X8_name_50  hr (jx (P := P) kk (Eq.trans (if_neg c1) (Eq.trans (if_pos c2) (if_pos c3)))))) (fun c2 => V_X8_name_9  hr (jx (P := P) kk (Eq.trans (if_neg c1) (if_neg c2)))))
theorem ct_X8_name  (I : WI) (L : WL) (a1 : Int32)  : Ct x_X8_name 7 [.ref 0, .int a1] ly0 I L R0 0 0 (some (.long (p1 (F_X8_name I L a1))), ly0, (p1 (p2 (F_X8_name I L a1))), (p2 (p2 (F_X8_name I L a1))), R0) :=
  Ct_of_V mo_X8_name.1 (Nat.le_of_ble_eq_true rfl) (V_X8_name (P := fun x => x = (F_X8_name I L a1))  (fun _ e => by rw [e]) rfl)
def F_X8_cousin_68 (I : WI) (L : WL) (a1 : Int32) (s0 : Int32) : (Int32 × WI × WL) :=
  (s0, I, L)
theorem V_X8_cousin_68  {I : WI} {L : WL} {a1 : Int32} {s0 : Int32} {P : (Int32 × WI × WL) → Prop} {t : Tg} (hs0 : bz s0 = s0) (hr : ∀ v, P v → t = (some (.int (p1 v)), ly0, (p1 (p2 v)), (p2 (p2 v)), R0)) (kk : P (F_X8_cousin_68 I L a1 s0)) : V (zM x_X8_cousin 7 0 0 t) 68 [(0, .ref 0), (1, .int a1)] [.int s0] ly0 I L R0 0 0 :=
  V_iret (tat ok_X8_cousin_0 (i := 35) (q := 69) rfl rfl) _ rfl (nar_int _) (hr (s0, I, L) (jx (P := P) kk rfl)) ⟨(Nat.le_of_ble_eq_true rfl), (Nat.le_of_ble_eq_true rfl)⟩
def F_X8_cousin (I : WI) (L : WL) (a1 : Int32) : (Int32 × WI × WL) :=
  (if a1 = 0 then (if (bz (I 3 0)) = 0 then ((-2), I, L) else (if (F_X2_sameAs (p1 (F_X2_find (p1 (F_X2_find I L 30 1 5)) (p2 (F_X2_find I L 30 1 5)) 31 3 5)) (p2 (F_X2_find (p1 (F_X2_find I L 30 1 5)) (p2 (F_X2_find I L 30 1 5)) 31 3 5)) 30 31) = 0 then (F_X8_cousin_68 (p1 (F_X2_find (p1 (F_X2_find I L 30 1 5)) (p2 (F_X2_find I L 30 1 5)) 31 3 5)) (p2 (F_X2_find (p1 (F_X2_find I L 30 1 5)) (p2 (F_X2_find I L 30 1 5)) 31 3 5)) a1 0) else (F_X8_cousin_68 (p1 (F_X2_find (p1 (F_X2_find I L 30 1 5)) (p2 (F_X2_find I L 30 1 5)) 31 3 5)) (p2 (F_X2_find (p1 (F_X2_find I L 30 1 5)) (p2 (F_X2_find I L 30 1 5)) 31 3 5)) a1 1))) else (if a1 = 1 then (if (bz (I 4 0)) = 0 then ((-2), I, L) else (if (F_X2_sameAs (p1 (F_X2_find (p1 (F_X2_find I L 30 1 5)) (p2 (F_X2_find I L 30 1 5)) 31 4 5)) (p2 (F_X2_find (p1 (F_X2_find I L 30 1 5)) (p2 (F_X2_find I L 30 1 5)) 31 4 5)) 30 31) = 0 then (F_X8_cousin_68 (p1 (F_X2_find (p1 (F_X2_find I L 30 1 5)) (p2 (F_X2_find I L 30 1 5)) 31 4 5)) (p2 (F_X2_find (p1 (F_X2_find I L 30 1 5)) (p2 (F_X2_find I L 30 1 5)) 31 4 5)) a1 0) else (F_X8_cousin_68 (p1 (F_X2_find (p1 (F_X2_find I L 30 1 5)) (p2 (F_X2_find I L 30 1 5)) 31 4 5)) (p2 (F_X2_find (p1 (F_X2_find I L 30 1 5)) (p2 (F_X2_find I L 30 1 5)) 31 4 5)) a1 1))) else ((-1), I, L)))
theorem V_X8_cousin  {I : WI} {L : WL} {a1 : Int32}  {P : (Int32 × WI × WL) → Prop} {t : Tg} (hr : ∀ v, P v → t = (some (.int (p1 v)), ly0, (p1 (p2 v)), (p2 (p2 v)), R0)) (kk : P (F_X8_cousin I L a1)) : V (zM x_X8_cousin 7 0 0 t) 0 [(0, .ref 0), (1, .int a1)] [] ly0 I L R0 0 0 :=
  V_aload_n (tat ok_X8_cousin_0 (i := 0) (q := 1) rfl rfl) 0 rfl rfl <|
    V_iload_n (tat ok_X8_cousin_0 (i := 1) (q := 2) rfl rfl) 1 rfl rfl <|
    (if c1 : a1 = 0 then V_cv1 (ct_img0 I L a1 c1) mo_X8_imageOf (tat ok_X8_cousin_0 (i := 2) (q := 5) rfl rfl) ml_X8_183 rfl ⟨by decide, _, rfl, rfl⟩ ⟨(Nat.le_of_ble_eq_true rfl), (Nat.le_of_ble_eq_true rfl)⟩ ⟨(Nat.le_of_ble_eq_true rfl), (Nat.le_of_ble_eq_true rfl)⟩ (Nat.le_of_ble_eq_true rfl) <|
    V_astore_n (lv' := [(2, .ref 3), (0, .ref 0), (1, .int a1)]) (tat ok_X8_cousin_0 (i := 3) (q := 6) rfl rfl) rfl (by decide) (Nat.le_of_ble_eq_true rfl) rfl <|
    V_aload_n (tat ok_X8_cousin_0 (i := 4) (q := 7) rfl rfl) 0 rfl rfl <|
    V_ifnonnull (tat ok_X8_cousin_0 (i := 5) (q := 10) rfl rfl) (by decide) rfl <|
    V_aload_n (tat ok_X8_cousin_0 (i := 8) (q := 13) rfl rfl) 0 rfl rfl <|
    V_getZ (tat ok_X8_cousin_0 (i := 9) (q := 16) rfl rfl) fk_X8_106 rfl <|
    V_if_ne (tat ok_X8_cousin_0 (i := 10) (q := 19) rfl rfl) rfl (fun c3 => V_aload_n (tat ok_X8_cousin_0 (i := 13) (q := 23) rfl rfl) 1 rfl rfl <|
    V_getR (tat ok_X8_cousin_0 (i := 14) (q := 26) rfl rfl) fk_X8_70 rfl rfl <|
    V_aload_n (tat ok_X8_cousin_0 (i := 15) (q := 27) rfl rfl) 1 rfl rfl <|
    V_getR (tat ok_X8_cousin_0 (i := 16) (q := 30) rfl rfl) fk_X8_14 rfl rfl <|
    V_aload_n (tat ok_X8_cousin_0 (i := 17) (q := 31) rfl rfl) 1 rfl rfl <|
    V_getR (tat ok_X8_cousin_0 (i := 18) (q := 34) rfl rfl) fk_X8_27 rfl rfl <|
    V_cv2v (ct_X2_find I L 30 1 5 rfl rfl rfl) mo_X2_find (tat ok_X8_cousin_0 (i := 19) (q := 37) rfl rfl) ml_X8_272 rfl ⟨by decide, _, rfl, rfl⟩ ⟨(Nat.le_of_ble_eq_true rfl), (Nat.le_of_ble_eq_true rfl)⟩ ⟨(Nat.le_of_ble_eq_true rfl), (Nat.le_of_ble_eq_true rfl)⟩ (Nat.le_of_ble_eq_true rfl) <|
    V_aload_n (tat ok_X8_cousin_0 (i := 20) (q := 38) rfl rfl) 1 rfl rfl <|
    V_getR (tat ok_X8_cousin_0 (i := 21) (q := 41) rfl rfl) fk_X8_74 rfl rfl <|
    V_aload_n (tat ok_X8_cousin_0 (i := 22) (q := 42) rfl rfl) 0 rfl rfl <|
    V_aload_n (tat ok_X8_cousin_0 (i := 23) (q := 43) rfl rfl) 1 rfl rfl <|
    V_getR (tat ok_X8_cousin_0 (i := 24) (q := 46) rfl rfl) fk_X8_27 rfl rfl <|
    V_cv2v (ct_X2_find (p1 (F_X2_find I L 30 1 5)) (p2 (F_X2_find I L 30 1 5)) 31 3 5 rfl rfl rfl) mo_X2_find (tat ok_X8_cousin_0 (i := 25) (q := 49) rfl rfl) ml_X8_272 rfl ⟨by decide, _, rfl, rfl⟩ ⟨(Nat.le_of_ble_eq_true rfl), (Nat.le_of_ble_eq_true rfl)⟩ ⟨(Nat.le_of_ble_eq_true rfl), (Nat.le_of_ble_eq_true rfl)⟩ (Nat.le_of_ble_eq_true rfl) <|
    V_aload_n (tat ok_X8_cousin_0 (i := 26) (q := 50) rfl rfl) 1 rfl rfl <|
    V_getR (tat ok_X8_cousin_0 (i := 27) (q := 53) rfl rfl) fk_X8_70 rfl rfl <|
    V_aload_n (tat ok_X8_cousin_0 (i := 28) (q := 54) rfl rfl) 1 rfl rfl <|
    V_getR (tat ok_X8_cousin_0 (i := 29) (q := 57) rfl rfl) fk_X8_74 rfl rfl <|
    V_cv1 (ct_X2_sameAs (p1 (F_X2_find (p1 (F_X2_find I L 30 1 5)) (p2 (F_X2_find I L 30 1 5)) 31 3 5)) (p2 (F_X2_find (p1 (F_X2_find I L 30 1 5)) (p2 (F_X2_find I L 30 1 5)) 31 3 5)) 30 31 rfl rfl) mo_X2_sameAs (tat ok_X8_cousin_0 (i := 30) (q := 60) rfl rfl) ml_X8_282 rfl ⟨by decide, _, rfl, rfl⟩ ⟨(Nat.le_of_ble_eq_true rfl), (Nat.le_of_ble_eq_true rfl)⟩ ⟨(Nat.le_of_ble_eq_true rfl), (Nat.le_of_ble_eq_true rfl)⟩ (Nat.le_of_ble_eq_true rfl) <|
    V_if_eq (tat ok_X8_cousin_0 (i := 31) (q := 63) rfl rfl) rfl (fun c4 => V_iconst (tat ok_X8_cousin_0 (i := 34) (q := 68) rfl rfl) ic_0 <|
    V_pick [1, 2] rfl (V_X8_cousin_68 rfl hr (jx (P := P) kk (Eq.trans (if_pos c1) (Eq.trans (if_neg c3) (if_pos c4)))))) (fun c4 => V_iconst (tat ok_X8_cousin_0 (i := 32) (q := 64) rfl rfl) ic_1 <|
    V_goto (tat ok_X8_cousin_0 (i := 33) (q := 67) rfl rfl) rfl <|
    V_pick [1, 2] rfl (V_X8_cousin_68 rfl hr (jx (P := P) kk (Eq.trans (if_pos c1) (Eq.trans (if_neg c3) (if_neg c4))))))) (fun c3 => V_bipush (tat ok_X8_cousin_0 (i := 11) (q := 21) rfl rfl) bp_m2 <|
    V_iret (tat ok_X8_cousin_0 (i := 12) (q := 22) rfl rfl) _ rfl (nar_int _) (hr ((-2), I, L) (jx (P := P) kk (Eq.trans (if_pos c1) (if_pos c3)))) ⟨(Nat.le_of_ble_eq_true rfl), (Nat.le_of_ble_eq_true rfl)⟩) else (if c2 : a1 = 1 then V_cv1 (ct_img1 I L a1 c2) mo_X8_imageOf (tat ok_X8_cousin_0 (i := 2) (q := 5) rfl rfl) ml_X8_183 rfl ⟨by decide, _, rfl, rfl⟩ ⟨(Nat.le_of_ble_eq_true rfl), (Nat.le_of_ble_eq_true rfl)⟩ ⟨(Nat.le_of_ble_eq_true rfl), (Nat.le_of_ble_eq_true rfl)⟩ (Nat.le_of_ble_eq_true rfl) <|
    V_astore_n (lv' := [(2, .ref 4), (0, .ref 0), (1, .int a1)]) (tat ok_X8_cousin_0 (i := 3) (q := 6) rfl rfl) rfl (by decide) (Nat.le_of_ble_eq_true rfl) rfl <|
    V_aload_n (tat ok_X8_cousin_0 (i := 4) (q := 7) rfl rfl) 0 rfl rfl <|
    V_ifnonnull (tat ok_X8_cousin_0 (i := 5) (q := 10) rfl rfl) (by decide) rfl <|
    V_aload_n (tat ok_X8_cousin_0 (i := 8) (q := 13) rfl rfl) 0 rfl rfl <|
    V_getZ (tat ok_X8_cousin_0 (i := 9) (q := 16) rfl rfl) fk_X8_106 rfl <|
    V_if_ne (tat ok_X8_cousin_0 (i := 10) (q := 19) rfl rfl) rfl (fun c5 => V_aload_n (tat ok_X8_cousin_0 (i := 13) (q := 23) rfl rfl) 1 rfl rfl <|
    V_getR (tat ok_X8_cousin_0 (i := 14) (q := 26) rfl rfl) fk_X8_70 rfl rfl <|
    V_aload_n (tat ok_X8_cousin_0 (i := 15) (q := 27) rfl rfl) 1 rfl rfl <|
    V_getR (tat ok_X8_cousin_0 (i := 16) (q := 30) rfl rfl) fk_X8_14 rfl rfl <|
    V_aload_n (tat ok_X8_cousin_0 (i := 17) (q := 31) rfl rfl) 1 rfl rfl <|
    V_getR (tat ok_X8_cousin_0 (i := 18) (q := 34) rfl rfl) fk_X8_27 rfl rfl <|
    V_cv2v (ct_X2_find I L 30 1 5 rfl rfl rfl) mo_X2_find (tat ok_X8_cousin_0 (i := 19) (q := 37) rfl rfl) ml_X8_272 rfl ⟨by decide, _, rfl, rfl⟩ ⟨(Nat.le_of_ble_eq_true rfl), (Nat.le_of_ble_eq_true rfl)⟩ ⟨(Nat.le_of_ble_eq_true rfl), (Nat.le_of_ble_eq_true rfl)⟩ (Nat.le_of_ble_eq_true rfl) <|
    V_aload_n (tat ok_X8_cousin_0 (i := 20) (q := 38) rfl rfl) 1 rfl rfl <|
    V_getR (tat ok_X8_cousin_0 (i := 21) (q := 41) rfl rfl) fk_X8_74 rfl rfl <|
    V_aload_n (tat ok_X8_cousin_0 (i := 22) (q := 42) rfl rfl) 0 rfl rfl <|
    V_aload_n (tat ok_X8_cousin_0 (i := 23) (q := 43) rfl rfl) 1 rfl rfl <|
    V_getR (tat ok_X8_cousin_0 (i := 24) (q := 46) rfl rfl) fk_X8_27 rfl rfl <|
    V_cv2v (ct_X2_find (p1 (F_X2_find I L 30 1 5)) (p2 (F_X2_find I L 30 1 5)) 31 4 5 rfl rfl rfl) mo_X2_find (tat ok_X8_cousin_0 (i := 25) (q := 49) rfl rfl) ml_X8_272 rfl ⟨by decide, _, rfl, rfl⟩ ⟨(Nat.le_of_ble_eq_true rfl), (Nat.le_of_ble_eq_true rfl)⟩ ⟨(Nat.le_of_ble_eq_true rfl), (Nat.le_of_ble_eq_true rfl)⟩ (Nat.le_of_ble_eq_true rfl) <|
    V_aload_n (tat ok_X8_cousin_0 (i := 26) (q := 50) rfl rfl) 1 rfl rfl <|
    V_getR (tat ok_X8_cousin_0 (i := 27) (q := 53) rfl rfl) fk_X8_70 rfl rfl <|
    V_aload_n (tat ok_X8_cousin_0 (i := 28) (q := 54) rfl rfl) 1 rfl rfl <|
    V_getR (tat ok_X8_cousin_0 (i := 29) (q := 57) rfl rfl) fk_X8_74 rfl rfl <|
    V_cv1 (ct_X2_sameAs (p1 (F_X2_find (p1 (F_X2_find I L 30 1 5)) (p2 (F_X2_find I L 30 1 5)) 31 4 5)) (p2 (F_X2_find (p1 (F_X2_find I L 30 1 5)) (p2 (F_X2_find I L 30 1 5)) 31 4 5)) 30 31 rfl rfl) mo_X2_sameAs (tat ok_X8_cousin_0 (i := 30) (q := 60) rfl rfl) ml_X8_282 rfl ⟨by decide, _, rfl, rfl⟩ ⟨(Nat.le_of_ble_eq_true rfl), (Nat.le_of_ble_eq_true rfl)⟩ ⟨(Nat.le_of_ble_eq_true rfl), (Nat.le_of_ble_eq_true rfl)⟩ (Nat.le_of_ble_eq_true rfl) <|
    V_if_eq (tat ok_X8_cousin_0 (i := 31) (q := 63) rfl rfl) rfl (fun c6 => V_iconst (tat ok_X8_cousin_0 (i := 34) (q := 68) rfl rfl) ic_0 <|
    V_pick [1, 2] rfl (V_X8_cousin_68 rfl hr (jx (P := P) kk (Eq.trans (if_neg c1) (Eq.trans (if_pos c2) (Eq.trans (if_neg c5) (if_pos c6))))))) (fun c6 => V_iconst (tat ok_X8_cousin_0 (i := 32) (q := 64) rfl rfl) ic_1 <|
    V_goto (tat ok_X8_cousin_0 (i := 33) (q := 67) rfl rfl) rfl <|
    V_pick [1, 2] rfl (V_X8_cousin_68 rfl hr (jx (P := P) kk (Eq.trans (if_neg c1) (Eq.trans (if_pos c2) (Eq.trans (if_neg c5) (if_neg c6)))))))) (fun c5 => V_bipush (tat ok_X8_cousin_0 (i := 11) (q := 21) rfl rfl) bp_m2 <|
    V_iret (tat ok_X8_cousin_0 (i := 12) (q := 22) rfl rfl) _ rfl (nar_int _) (hr ((-2), I, L) (jx (P := P) kk (Eq.trans (if_neg c1) (Eq.trans (if_pos c2) (if_pos c5))))) ⟨(Nat.le_of_ble_eq_true rfl), (Nat.le_of_ble_eq_true rfl)⟩) else V_cv1 (ct_imgN I L a1 c1 c2) mo_X8_imageOf (tat ok_X8_cousin_0 (i := 2) (q := 5) rfl rfl) ml_X8_183 rfl ⟨by decide, _, rfl, rfl⟩ ⟨(Nat.le_of_ble_eq_true rfl), (Nat.le_of_ble_eq_true rfl)⟩ ⟨(Nat.le_of_ble_eq_true rfl), (Nat.le_of_ble_eq_true rfl)⟩ (Nat.le_of_ble_eq_true rfl) <|
    V_astoreN_n (lv' := [(2, .null), (0, .ref 0), (1, .int a1)]) (tat ok_X8_cousin_0 (i := 3) (q := 6) rfl rfl) rfl (Nat.le_of_ble_eq_true rfl) rfl <|
    V_aloadN_n (tat ok_X8_cousin_0 (i := 4) (q := 7) rfl rfl) 0 rfl rfl <|
    V_ifnonnullN (tat ok_X8_cousin_0 (i := 5) (q := 10) rfl rfl) <|
    V_iconst (tat ok_X8_cousin_0 (i := 6) (q := 11) rfl rfl) ic_m1 <|
    V_iret (tat ok_X8_cousin_0 (i := 7) (q := 12) rfl rfl) _ rfl (nar_int _) (hr ((-1), I, L) (jx (P := P) kk (Eq.trans (if_neg c1) (if_neg c2)))) ⟨(Nat.le_of_ble_eq_true rfl), (Nat.le_of_ble_eq_true rfl)⟩))
theorem ct_X8_cousin  (I : WI) (L : WL) (a1 : Int32)  : Ct x_X8_cousin 7 [.ref 0, .int a1] ly0 I L R0 0 0 (some (.int (p1 (F_X8_cousin I L a1))), ly0, (p1 (p2 (F_X8_cousin I L a1))), (p2 (p2 (F_X8_cousin I L a1))), R0) :=
  Ct_of_V mo_X8_cousin.1 (Nat.le_of_ble_eq_true rfl) (V_X8_cousin (P := fun x => x = (F_X8_cousin I L a1))  (fun _ e => by rw [e]) rfl)
def F_X8_keep_24 (I : WI) (L : WL) (a1 : Int32) (r2 : Nat) (s0 : Int32) : (Int32 × WI × WL) :=
  (s0, (p1 (F_X0_become I L r2 1)), (p2 (F_X0_become I L r2 1)))
theorem V_X8_keep_24  {I : WI} {L : WL} {a1 : Int32} {r2 : Nat} {s0 : Int32} {P : (Int32 × WI × WL) → Prop} {t : Tg} (hr2 : isX0 r2) (hs0 : bz s0 = s0) (hr : ∀ v, P v → t = (some (.int (p1 v)), ly0, (p1 (p2 v)), (p2 (p2 v)), R0)) (kk : P (F_X8_keep_24 I L a1 r2 s0)) : V (zM x_X8_keep 2 0 0 t) 24 [(0, .ref 0), (1, .int a1), (2, .ref r2)] [.int s0] ly0 I L R0 0 0 :=
  V_istore_n (lv' := [(3, .int s0), (0, .ref 0), (1, .int a1), (2, .ref r2)]) (tat ok_X8_keep_0 (i := 14) (q := 25) rfl rfl) rfl (Nat.le_of_ble_eq_true rfl) rfl <|
    V_aload_n (tat ok_X8_keep_0 (i := 15) (q := 26) rfl rfl) 3 rfl rfl <|
    V_aload_n (tat ok_X8_keep_0 (i := 16) (q := 27) rfl rfl) 1 rfl rfl <|
    V_getR (tat ok_X8_keep_0 (i := 17) (q := 30) rfl rfl) fk_X8_14 rfl rfl <|
    V_cv1v (ct_X0_become I L r2 1 hr2 rfl) mo_X0_become (tat ok_X8_keep_0 (i := 18) (q := 33) rfl rfl) ml_X8_102 hr2 ⟨by decide, _, rfl, rfl⟩ ⟨(Nat.le_of_ble_eq_true rfl), (Nat.le_of_ble_eq_true rfl)⟩ ⟨(Nat.le_of_ble_eq_true rfl), (Nat.le_of_ble_eq_true rfl)⟩ (Nat.le_of_ble_eq_true rfl) <|
    V_iload_n (tat ok_X8_keep_0 (i := 19) (q := 34) rfl rfl) 0 rfl rfl <|
    V_iret (tat ok_X8_keep_0 (i := 20) (q := 35) rfl rfl) _ rfl (nar_int _) (hr (s0, (p1 (F_X0_become I L r2 1)), (p2 (F_X0_become I L r2 1))) (jx (P := P) kk rfl)) ⟨(Nat.le_of_ble_eq_true rfl), (Nat.le_of_ble_eq_true rfl)⟩
def F_X8_keep (I : WI) (L : WL) (a1 : Int32) : (Int32 × WI × WL) :=
  (if a1 = 0 then (if (bz (I 3 0)) = 0 then (F_X8_keep_24 I L a1 3 0) else (F_X8_keep_24 I L a1 3 1)) else (if a1 = 1 then (if (bz (I 4 0)) = 0 then (F_X8_keep_24 I L a1 4 0) else (F_X8_keep_24 I L a1 4 1)) else ((-1), I, L)))
theorem V_X8_keep  {I : WI} {L : WL} {a1 : Int32}  {P : (Int32 × WI × WL) → Prop} {t : Tg} (hr : ∀ v, P v → t = (some (.int (p1 v)), ly0, (p1 (p2 v)), (p2 (p2 v)), R0)) (kk : P (F_X8_keep I L a1)) : V (zM x_X8_keep 2 0 0 t) 0 [(0, .ref 0), (1, .int a1)] [] ly0 I L R0 0 0 :=
  V_aload_n (tat ok_X8_keep_0 (i := 0) (q := 1) rfl rfl) 0 rfl rfl <|
    V_iload_n (tat ok_X8_keep_0 (i := 1) (q := 2) rfl rfl) 1 rfl rfl <|
    (if c1 : a1 = 0 then V_cv1 (ct_img0 I L a1 c1) mo_X8_imageOf (tat ok_X8_keep_0 (i := 2) (q := 5) rfl rfl) ml_X8_183 rfl ⟨by decide, _, rfl, rfl⟩ ⟨(Nat.le_of_ble_eq_true rfl), (Nat.le_of_ble_eq_true rfl)⟩ ⟨(Nat.le_of_ble_eq_true rfl), (Nat.le_of_ble_eq_true rfl)⟩ (Nat.le_of_ble_eq_true rfl) <|
    V_astore_n (lv' := [(2, .ref 3), (0, .ref 0), (1, .int a1)]) (tat ok_X8_keep_0 (i := 3) (q := 6) rfl rfl) rfl (by decide) (Nat.le_of_ble_eq_true rfl) rfl <|
    V_aload_n (tat ok_X8_keep_0 (i := 4) (q := 7) rfl rfl) 0 rfl rfl <|
    V_ifnonnull (tat ok_X8_keep_0 (i := 5) (q := 10) rfl rfl) (by decide) rfl <|
    V_aload_n (tat ok_X8_keep_0 (i := 8) (q := 13) rfl rfl) 0 rfl rfl <|
    V_getZ (tat ok_X8_keep_0 (i := 9) (q := 16) rfl rfl) fk_X8_106 rfl <|
    V_if_eq (tat ok_X8_keep_0 (i := 10) (q := 19) rfl rfl) rfl (fun c3 => V_iconst (tat ok_X8_keep_0 (i := 13) (q := 24) rfl rfl) ic_0 <|
    V_pick [1, 2, 0] rfl (V_X8_keep_24 rfl rfl hr (jx (P := P) kk (Eq.trans (if_pos c1) (if_pos c3))))) (fun c3 => V_iconst (tat ok_X8_keep_0 (i := 11) (q := 20) rfl rfl) ic_1 <|
    V_goto (tat ok_X8_keep_0 (i := 12) (q := 23) rfl rfl) rfl <|
    V_pick [1, 2, 0] rfl (V_X8_keep_24 rfl rfl hr (jx (P := P) kk (Eq.trans (if_pos c1) (if_neg c3))))) else (if c2 : a1 = 1 then V_cv1 (ct_img1 I L a1 c2) mo_X8_imageOf (tat ok_X8_keep_0 (i := 2) (q := 5) rfl rfl) ml_X8_183 rfl ⟨by decide, _, rfl, rfl⟩ ⟨(Nat.le_of_ble_eq_true rfl), (Nat.le_of_ble_eq_true rfl)⟩ ⟨(Nat.le_of_ble_eq_true rfl), (Nat.le_of_ble_eq_true rfl)⟩ (Nat.le_of_ble_eq_true rfl) <|
    V_astore_n (lv' := [(2, .ref 4), (0, .ref 0), (1, .int a1)]) (tat ok_X8_keep_0 (i := 3) (q := 6) rfl rfl) rfl (by decide) (Nat.le_of_ble_eq_true rfl) rfl <|
    V_aload_n (tat ok_X8_keep_0 (i := 4) (q := 7) rfl rfl) 0 rfl rfl <|
    V_ifnonnull (tat ok_X8_keep_0 (i := 5) (q := 10) rfl rfl) (by decide) rfl <|
    V_aload_n (tat ok_X8_keep_0 (i := 8) (q := 13) rfl rfl) 0 rfl rfl <|
    V_getZ (tat ok_X8_keep_0 (i := 9) (q := 16) rfl rfl) fk_X8_106 rfl <|
    V_if_eq (tat ok_X8_keep_0 (i := 10) (q := 19) rfl rfl) rfl (fun c4 => V_iconst (tat ok_X8_keep_0 (i := 13) (q := 24) rfl rfl) ic_0 <|
    V_pick [1, 2, 0] rfl (V_X8_keep_24 rfl rfl hr (jx (P := P) kk (Eq.trans (if_neg c1) (Eq.trans (if_pos c2) (if_pos c4)))))) (fun c4 => V_iconst (tat ok_X8_keep_0 (i := 11) (q := 20) rfl rfl) ic_1 <|
    V_goto (tat ok_X8_keep_0 (i := 12) (q := 23) rfl rfl) rfl <|
    V_pick [1, 2, 0] rfl (V_X8_keep_24 rfl rfl hr (jx (P := P) kk (Eq.trans (if_neg c1) (Eq.trans (if_pos c2) (if_neg c4)))))) else V_cv1 (ct_imgN I L a1 c1 c2) mo_X8_imageOf (tat ok_X8_keep_0 (i := 2) (q := 5) rfl rfl) ml_X8_183 rfl ⟨by decide, _, rfl, rfl⟩ ⟨(Nat.le_of_ble_eq_true rfl), (Nat.le_of_ble_eq_true rfl)⟩ ⟨(Nat.le_of_ble_eq_true rfl), (Nat.le_of_ble_eq_true rfl)⟩ (Nat.le_of_ble_eq_true rfl) <|
    V_astoreN_n (lv' := [(2, .null), (0, .ref 0), (1, .int a1)]) (tat ok_X8_keep_0 (i := 3) (q := 6) rfl rfl) rfl (Nat.le_of_ble_eq_true rfl) rfl <|
    V_aloadN_n (tat ok_X8_keep_0 (i := 4) (q := 7) rfl rfl) 0 rfl rfl <|
    V_ifnonnullN (tat ok_X8_keep_0 (i := 5) (q := 10) rfl rfl) <|
    V_iconst (tat ok_X8_keep_0 (i := 6) (q := 11) rfl rfl) ic_m1 <|
    V_iret (tat ok_X8_keep_0 (i := 7) (q := 12) rfl rfl) _ rfl (nar_int _) (hr ((-1), I, L) (jx (P := P) kk (Eq.trans (if_neg c1) (if_neg c2)))) ⟨(Nat.le_of_ble_eq_true rfl), (Nat.le_of_ble_eq_true rfl)⟩))
theorem ct_X8_keep  (I : WI) (L : WL) (a1 : Int32)  : Ct x_X8_keep 2 [.ref 0, .int a1] ly0 I L R0 0 0 (some (.int (p1 (F_X8_keep I L a1))), ly0, (p1 (p2 (F_X8_keep I L a1))), (p2 (p2 (F_X8_keep I L a1))), R0) :=
  Ct_of_V mo_X8_keep.1 (Nat.le_of_ble_eq_true rfl) (V_X8_keep (P := fun x => x = (F_X8_keep I L a1))  (fun _ e => by rw [e]) rfl)
def F_X8_back_37 (I : WI) (L : WL) (a1 : Int32) (r2 : Nat) : (Int32 × WI × WL) :=
  ((F_X0_darkSquares (p2 (F_X0_become I L 1 r2)) 1), (p1 (F_X0_become I L 1 r2)), (p2 (F_X0_become I L 1 r2)))
theorem V_X8_back_37  {I : WI} {L : WL} {a1 : Int32} {r2 : Nat} {P : (Int32 × WI × WL) → Prop} {t : Tg} (hr2 : isX0 r2) (hr : ∀ v, P v → t = (some (.int (p1 v)), ly0, (p1 (p2 v)), (p2 (p2 v)), R0)) (kk : P (F_X8_back_37 I L a1 r2)) : V (zM x_X8_back 3 0 0 t) 37 [(0, .ref 0), (1, .int a1), (2, .ref r2)] [] ly0 I L R0 0 0 :=
  V_aload_n (tat ok_X8_back_0 (i := 20) (q := 38) rfl rfl) 0 rfl rfl <|
    V_getR (tat ok_X8_back_0 (i := 21) (q := 41) rfl rfl) fk_X8_14 rfl rfl <|
    V_aload_n (tat ok_X8_back_0 (i := 22) (q := 42) rfl rfl) 2 rfl rfl <|
    V_cv1v (ct_X0_become I L 1 r2 rfl hr2) mo_X0_become (tat ok_X8_back_0 (i := 23) (q := 45) rfl rfl) ml_X8_102 rfl ⟨by decide, _, rfl, rfl⟩ ⟨(Nat.le_of_ble_eq_true rfl), (Nat.le_of_ble_eq_true rfl)⟩ ⟨(Nat.le_of_ble_eq_true rfl), (Nat.le_of_ble_eq_true rfl)⟩ (Nat.le_of_ble_eq_true rfl) <|
    V_aload_n (tat ok_X8_back_0 (i := 24) (q := 46) rfl rfl) 0 rfl rfl <|
    V_getR (tat ok_X8_back_0 (i := 25) (q := 49) rfl rfl) fk_X8_14 rfl rfl <|
    V_cv0 (ct_X0_darkSquares (p1 (F_X0_become I L 1 r2)) (p2 (F_X0_become I L 1 r2)) 1 rfl) mo_X0_darkSquares (tat ok_X8_back_0 (i := 26) (q := 52) rfl rfl) ml_X8_159 rfl ⟨by decide, _, rfl, rfl⟩ ⟨(Nat.le_of_ble_eq_true rfl), (Nat.le_of_ble_eq_true rfl)⟩ ⟨(Nat.le_of_ble_eq_true rfl), (Nat.le_of_ble_eq_true rfl)⟩ (Nat.le_of_ble_eq_true rfl) <|
    V_iret (tat ok_X8_back_0 (i := 27) (q := 53) rfl rfl) _ rfl (nar_int _) (hr ((F_X0_darkSquares (p2 (F_X0_become I L 1 r2)) 1), (p1 (F_X0_become I L 1 r2)), (p2 (F_X0_become I L 1 r2))) (jx (P := P) kk rfl)) ⟨(Nat.le_of_ble_eq_true rfl), (Nat.le_of_ble_eq_true rfl)⟩
def F_X8_back (I : WI) (L : WL) (a1 : Int32) : (Int32 × WI × WL) :=
  (if a1 = 0 then (if (bz (I 3 0)) = 0 then ((-2), I, L) else (if (F_X0_sameSize I 3 1) = 0 then (F_X8_back_37 (F_X8_forgetPlans I) L a1 3) else (F_X8_back_37 I L a1 3))) else (if a1 = 1 then (if (bz (I 4 0)) = 0 then ((-2), I, L) else (if (F_X0_sameSize I 4 1) = 0 then (F_X8_back_37 (F_X8_forgetPlans I) L a1 4) else (F_X8_back_37 I L a1 4))) else ((-1), I, L)))
theorem V_X8_back  {I : WI} {L : WL} {a1 : Int32}  {P : (Int32 × WI × WL) → Prop} {t : Tg} (hr : ∀ v, P v → t = (some (.int (p1 v)), ly0, (p1 (p2 v)), (p2 (p2 v)), R0)) (kk : P (F_X8_back I L a1)) : V (zM x_X8_back 3 0 0 t) 0 [(0, .ref 0), (1, .int a1)] [] ly0 I L R0 0 0 :=
  V_aload_n (tat ok_X8_back_0 (i := 0) (q := 1) rfl rfl) 0 rfl rfl <|
    V_iload_n (tat ok_X8_back_0 (i := 1) (q := 2) rfl rfl) 1 rfl rfl <|
    (if c1 : a1 = 0 then V_cv1 (ct_img0 I L a1 c1) mo_X8_imageOf (tat ok_X8_back_0 (i := 2) (q := 5) rfl rfl) ml_X8_183 rfl ⟨by decide, _, rfl, rfl⟩ ⟨(Nat.le_of_ble_eq_true rfl), (Nat.le_of_ble_eq_true rfl)⟩ ⟨(Nat.le_of_ble_eq_true rfl), (Nat.le_of_ble_eq_true rfl)⟩ (Nat.le_of_ble_eq_true rfl) <|
    V_astore_n (lv' := [(2, .ref 3), (0, .ref 0), (1, .int a1)]) (tat ok_X8_back_0 (i := 3) (q := 6) rfl rfl) rfl (by decide) (Nat.le_of_ble_eq_true rfl) rfl <|
    V_aload_n (tat ok_X8_back_0 (i := 4) (q := 7) rfl rfl) 0 rfl rfl <|
    V_ifnonnull (tat ok_X8_back_0 (i := 5) (q := 10) rfl rfl) (by decide) rfl <|
    V_aload_n (tat ok_X8_back_0 (i := 8) (q := 13) rfl rfl) 0 rfl rfl <|
    V_getZ (tat ok_X8_back_0 (i := 9) (q := 16) rfl rfl) fk_X8_106 rfl <|
    V_if_ne (tat ok_X8_back_0 (i := 10) (q := 19) rfl rfl) rfl (fun c3 => V_aload_n (tat ok_X8_back_0 (i := 13) (q := 23) rfl rfl) 0 rfl rfl <|
    V_aload_n (tat ok_X8_back_0 (i := 14) (q := 24) rfl rfl) 1 rfl rfl <|
    V_getR (tat ok_X8_back_0 (i := 15) (q := 27) rfl rfl) fk_X8_14 rfl rfl <|
    V_cv1 (ct_X0_sameSize I L 3 1 rfl rfl) mo_X0_sameSize (tat ok_X8_back_0 (i := 16) (q := 30) rfl rfl) ml_X8_187 rfl ⟨by decide, _, rfl, rfl⟩ ⟨(Nat.le_of_ble_eq_true rfl), (Nat.le_of_ble_eq_true rfl)⟩ ⟨(Nat.le_of_ble_eq_true rfl), (Nat.le_of_ble_eq_true rfl)⟩ (Nat.le_of_ble_eq_true rfl) <|
    V_if_ne (tat ok_X8_back_0 (i := 17) (q := 33) rfl rfl) rfl (fun c4 => V_pick [1, 2, 0] rfl (V_X8_back_37 rfl hr (jx (P := P) kk (Eq.trans (if_pos c1) (Eq.trans (if_neg c3) (if_neg c4)))))) (fun c4 => V_aload_n (tat ok_X8_back_0 (i := 18) (q := 34) rfl rfl) 1 rfl rfl <|
    V_cv0v (ct_X8_forgetPlans I L  ) mo_X8_forgetPlans (tat ok_X8_back_0 (i := 19) (q := 37) rfl rfl) ml_X8_269 rfl ⟨by decide, _, rfl, rfl⟩ ⟨(Nat.le_of_ble_eq_true rfl), (Nat.le_of_ble_eq_true rfl)⟩ ⟨(Nat.le_of_ble_eq_true rfl), (Nat.le_of_ble_eq_true rfl)⟩ (Nat.le_of_ble_eq_true rfl) <|
    V_pick [1, 2, 0] rfl (V_X8_back_37 rfl hr (jx (P := P) kk (Eq.trans (if_pos c1) (Eq.trans (if_neg c3) (if_pos c4))))))) (fun c3 => V_bipush (tat ok_X8_back_0 (i := 11) (q := 21) rfl rfl) bp_m2 <|
    V_iret (tat ok_X8_back_0 (i := 12) (q := 22) rfl rfl) _ rfl (nar_int _) (hr ((-2), I, L) (jx (P := P) kk (Eq.trans (if_pos c1) (if_pos c3)))) ⟨(Nat.le_of_ble_eq_true rfl), (Nat.le_of_ble_eq_true rfl)⟩) else (if c2 : a1 = 1 then V_cv1 (ct_img1 I L a1 c2) mo_X8_imageOf (tat ok_X8_back_0 (i := 2) (q := 5) rfl rfl) ml_X8_183 rfl ⟨by decide, _, rfl, rfl⟩ ⟨(Nat.le_of_ble_eq_true rfl), (Nat.le_of_ble_eq_true rfl)⟩ ⟨(Nat.le_of_ble_eq_true rfl), (Nat.le_of_ble_eq_true rfl)⟩ (Nat.le_of_ble_eq_true rfl) <|
    V_astore_n (lv' := [(2, .ref 4), (0, .ref 0), (1, .int a1)]) (tat ok_X8_back_0 (i := 3) (q := 6) rfl rfl) rfl (by decide) (Nat.le_of_ble_eq_true rfl) rfl <|
    V_aload_n (tat ok_X8_back_0 (i := 4) (q := 7) rfl rfl) 0 rfl rfl <|
    V_ifnonnull (tat ok_X8_back_0 (i := 5) (q := 10) rfl rfl) (by decide) rfl <|
    V_aload_n (tat ok_X8_back_0 (i := 8) (q := 13) rfl rfl) 0 rfl rfl <|
    V_getZ (tat ok_X8_back_0 (i := 9) (q := 16) rfl rfl) fk_X8_106 rfl <|
    V_if_ne (tat ok_X8_back_0 (i := 10) (q := 19) rfl rfl) rfl (fun c5 => V_aload_n (tat ok_X8_back_0 (i := 13) (q := 23) rfl rfl) 0 rfl rfl <|
    V_aload_n (tat ok_X8_back_0 (i := 14) (q := 24) rfl rfl) 1 rfl rfl <|
    V_getR (tat ok_X8_back_0 (i := 15) (q := 27) rfl rfl) fk_X8_14 rfl rfl <|
    V_cv1 (ct_X0_sameSize I L 4 1 rfl rfl) mo_X0_sameSize (tat ok_X8_back_0 (i := 16) (q := 30) rfl rfl) ml_X8_187 rfl ⟨by decide, _, rfl, rfl⟩ ⟨(Nat.le_of_ble_eq_true rfl), (Nat.le_of_ble_eq_true rfl)⟩ ⟨(Nat.le_of_ble_eq_true rfl), (Nat.le_of_ble_eq_true rfl)⟩ (Nat.le_of_ble_eq_true rfl) <|
    V_if_ne (tat ok_X8_back_0 (i := 17) (q := 33) rfl rfl) rfl (fun c6 => V_pick [1, 2, 0] rfl (V_X8_back_37 rfl hr (jx (P := P) kk (Eq.trans (if_neg c1) (Eq.trans (if_pos c2) (Eq.trans (if_neg c5) (if_neg c6))))))) (fun c6 => V_aload_n (tat ok_X8_back_0 (i := 18) (q := 34) rfl rfl) 1 rfl rfl <|
    V_cv0v (ct_X8_forgetPlans I L  ) mo_X8_forgetPlans (tat ok_X8_back_0 (i := 19) (q := 37) rfl rfl) ml_X8_269 rfl ⟨by decide, _, rfl, rfl⟩ ⟨(Nat.le_of_ble_eq_true rfl), (Nat.le_of_ble_eq_true rfl)⟩ ⟨(Nat.le_of_ble_eq_true rfl), (Nat.le_of_ble_eq_true rfl)⟩ (Nat.le_of_ble_eq_true rfl) <|
    V_pick [1, 2, 0] rfl (V_X8_back_37 rfl hr (jx (P := P) kk (Eq.trans (if_neg c1) (Eq.trans (if_pos c2) (Eq.trans (if_neg c5) (if_pos c6)))))))) (fun c5 => V_bipush (tat ok_X8_back_0 (i := 11) (q := 21) rfl rfl) bp_m2 <|
    V_iret (tat ok_X8_back_0 (i := 12) (q := 22) rfl rfl) _ rfl (nar_int _) (hr ((-2), I, L) (jx (P := P) kk (Eq.trans (if_neg c1) (Eq.trans (if_pos c2) (if_pos c5))))) ⟨(Nat.le_of_ble_eq_true rfl), (Nat.le_of_ble_eq_true rfl)⟩) else V_cv1 (ct_imgN I L a1 c1 c2) mo_X8_imageOf (tat ok_X8_back_0 (i := 2) (q := 5) rfl rfl) ml_X8_183 rfl ⟨by decide, _, rfl, rfl⟩ ⟨(Nat.le_of_ble_eq_true rfl), (Nat.le_of_ble_eq_true rfl)⟩ ⟨(Nat.le_of_ble_eq_true rfl), (Nat.le_of_ble_eq_true rfl)⟩ (Nat.le_of_ble_eq_true rfl) <|
    V_astoreN_n (lv' := [(2, .null), (0, .ref 0), (1, .int a1)]) (tat ok_X8_back_0 (i := 3) (q := 6) rfl rfl) rfl (Nat.le_of_ble_eq_true rfl) rfl <|
    V_aloadN_n (tat ok_X8_back_0 (i := 4) (q := 7) rfl rfl) 0 rfl rfl <|
    V_ifnonnullN (tat ok_X8_back_0 (i := 5) (q := 10) rfl rfl) <|
    V_iconst (tat ok_X8_back_0 (i := 6) (q := 11) rfl rfl) ic_m1 <|
    V_iret (tat ok_X8_back_0 (i := 7) (q := 12) rfl rfl) _ rfl (nar_int _) (hr ((-1), I, L) (jx (P := P) kk (Eq.trans (if_neg c1) (if_neg c2)))) ⟨(Nat.le_of_ble_eq_true rfl), (Nat.le_of_ble_eq_true rfl)⟩))
theorem ct_X8_back  (I : WI) (L : WL) (a1 : Int32)  : Ct x_X8_back 3 [.ref 0, .int a1] ly0 I L R0 0 0 (some (.int (p1 (F_X8_back I L a1))), ly0, (p1 (p2 (F_X8_back I L a1))), (p2 (p2 (F_X8_back I L a1))), R0) :=
  Ct_of_V mo_X8_back.1 (Nat.le_of_ble_eq_true rfl) (V_X8_back (P := fun x => x = (F_X8_back I L a1))  (fun _ e => by rw [e]) rfl)
def F_X8_isLane_14 (a0 : Int32) (s0 : Int32) : Int32 :=
  s0
theorem V_X8_isLane_14  {I : WI} {L : WL} {a0 : Int32} {s0 : Int32} {P : Int32 → Prop} {t : Tg} (hs0 : bz s0 = s0) (hr : ∀ v, P v → t = (some (.int v), ly0, I, L, R0)) (kk : P (F_X8_isLane_14 a0 s0)) : V (zM x_X8_isLane 1 0 0 t) 14 [(0, .int a0)] [.int s0] ly0 I L R0 0 0 :=
  V_iret (tat ok_X8_isLane_0 (i := 8) (q := 15) rfl rfl) _ rfl (bz_nf hs0).1 (hr s0 (jx (P := P) kk rfl)) ⟨(Nat.le_of_ble_eq_true rfl), (Nat.le_of_ble_eq_true rfl)⟩
def F_X8_isLane_13 (a0 : Int32) : Int32 :=
  (F_X8_isLane_14 a0 0)
theorem V_X8_isLane_13  {I : WI} {L : WL} {a0 : Int32}  {P : Int32 → Prop} {t : Tg} (hr : ∀ v, P v → t = (some (.int v), ly0, I, L, R0)) (kk : P (F_X8_isLane_13 a0)) : V (zM x_X8_isLane 1 0 0 t) 13 [(0, .int a0)] [] ly0 I L R0 0 0 :=
  V_iconst (tat ok_X8_isLane_0 (i := 7) (q := 14) rfl rfl) ic_0 <|
    V_X8_isLane_14 rfl hr (jx (P := P) kk rfl)
def F_X8_isLane (a0 : Int32) : Int32 :=
  (if a0 < 0 then (F_X8_isLane_13 a0) else (if 2 < a0 then (F_X8_isLane_13 a0) else (F_X8_isLane_14 a0 1)))
theorem V_X8_isLane  {I : WI} {L : WL} {a0 : Int32}  {P : Int32 → Prop} {t : Tg} (hr : ∀ v, P v → t = (some (.int v), ly0, I, L, R0)) (kk : P (F_X8_isLane a0)) : V (zM x_X8_isLane 1 0 0 t) 0 [(0, .int a0)] [] ly0 I L R0 0 0 :=
  V_iload_n (tat ok_X8_isLane_0 (i := 0) (q := 1) rfl rfl) 0 rfl rfl <|
    V_if_lt (tat ok_X8_isLane_0 (i := 1) (q := 4) rfl rfl) rfl (fun c1 => V_X8_isLane_13  hr (jx (P := P) kk (if_pos c1))) (fun c1 => V_iload_n (tat ok_X8_isLane_0 (i := 2) (q := 5) rfl rfl) 0 rfl rfl <|
    V_iconst (tat ok_X8_isLane_0 (i := 3) (q := 6) rfl rfl) ic_2 <|
    V_icmp_gt (tat ok_X8_isLane_0 (i := 4) (q := 9) rfl rfl) rfl (fun c2 => V_X8_isLane_13  hr (jx (P := P) kk (Eq.trans (if_neg c1) (if_pos c2)))) (fun c2 => V_iconst (tat ok_X8_isLane_0 (i := 5) (q := 10) rfl rfl) ic_1 <|
    V_goto (tat ok_X8_isLane_0 (i := 6) (q := 13) rfl rfl) rfl <|
    V_X8_isLane_14 rfl hr (jx (P := P) kk (Eq.trans (if_neg c1) (if_neg c2)))))
