def F_X9_both_89_2 (I : WI) (L : WL) (a1 : Int32) (a4 : Int32) (a5 : Int32) (a2 : Int32) (a3 : Int32) (s0 : Int32) : (Int32 × Int32) :=
  (if s0 = 0 then (F_X9_both_144_2 I L a1 a4 a5 a2 a3) else (if (lg_cmp (F_X9_formNow I ((((L 33 2) ^^^ (L 33 3)) ^^^ (lsh 1 a4)) ^^^ (lsh 1 a5))) 0) = 0 then (if a2 = 0 then (F_X9_both_140_2 I L a1 a4 a5 a2 ((64 * a4) + a5)) else (F_X9_both_140_2 I L a1 a4 a5 a2 a3)) else (F_X9_both_144_2 I L a1 a4 a5 a2 a3)))
theorem V_X9_both_89_2  {I : WI} {L : WL} {a1 : Int32} {a4 : Int32} {a5 : Int32} {a2 : Int32} {a3 : Int32} {s0 : Int32} {P : (Int32 × Int32) → Prop} {t : Tg} (hs0 : bz s0 = s0) (hk : ∀ x : (Int32 × Int32), P x → V (zM x_X9_both 4 0 0 t) 43 [(0, .ref 33), (1, .int a1), (2, .int (p1 x)), (3, .int (p2 x)), (4, .int a4), (5, .int (a5 + 1))] [] ly0 I L R0 0 0) (kk : P (F_X9_both_89_2 I L a1 a4 a5 a2 a3 s0)) : V (zM x_X9_both 4 0 0 t) 89 [(0, .ref 33), (1, .int a1), (2, .int a2), (3, .int a3), (4, .int a4), (5, .int a5)] [.int s0] ly0 I L R0 0 0 :=
  V_istore (lv' := [(6, .int s0), (0, .ref 33), (1, .int a1), (2, .int a2), (3, .int a3), (4, .int a4), (5, .int a5)]) (tat ok_X9_both_1 (i := 10) (q := 91) rfl rfl) (Nat.le_of_ble_eq_true rfl) rfl <|
    V_iload (tat ok_X9_both_1 (i := 11) (q := 93) rfl rfl) 0 rfl <|
    V_if_eq (tat ok_X9_both_1 (i := 12) (q := 96) rfl rfl) rfl (fun c4 => V_pick [1, 2, 3, 4, 5, 6] rfl (V_X9_both_144_2  hk (jx (P := P) kk (if_pos c4)))) (fun c4 => V_aload_n (tat ok_X9_both_1 (i := 13) (q := 97) rfl rfl) 1 rfl rfl <|
    V_aload_n (tat ok_X9_both_1 (i := 14) (q := 98) rfl rfl) 1 rfl rfl <|
    V_getL (tat ok_X9_both_1 (i := 15) (q := 101) rfl rfl) fk_X9_80 rfl <|
    V_aload_n (tat ok_X9_both_1 (i := 16) (q := 102) rfl rfl) 1 rfl rfl <|
    V_getL (tat ok_X9_both_1 (i := 17) (q := 105) rfl rfl) fk_X9_83 rfl <|
    V_lxor (tat ok_X9_both_1 (i := 18) (q := 106) rfl rfl) <|
    V_lconst (v := 1) (tat ok_X9_both_1 (i := 19) (q := 107) rfl rfl) rfl <|
    V_iload (tat ok_X9_both_1 (i := 20) (q := 109) rfl rfl) 5 rfl <|
    V_lshl (tat ok_X9_both_1 (i := 21) (q := 110) rfl rfl) <|
    V_lxor (tat ok_X9_both_1 (i := 22) (q := 111) rfl rfl) <|
    V_lconst (v := 1) (tat ok_X9_both_1 (i := 23) (q := 112) rfl rfl) rfl <|
    V_iload (tat ok_X9_both_1 (i := 24) (q := 114) rfl rfl) 6 rfl <|
    V_lshl (tat ok_X9_both_1 (i := 25) (q := 115) rfl rfl) <|
    V_lxor (tat ok_X9_both_1 (i := 26) (q := 116) rfl rfl) <|
    V_cv1 (ct_X9_formNow I L ((((L 33 2) ^^^ (L 33 3)) ^^^ (lsh 1 a4)) ^^^ (lsh 1 a5)) ) mo_X9_formNow (tat ok_X9_both_1 (i := 27) (q := 119) rfl rfl) ml_X9_231 rfl ⟨by decide, _, rfl, rfl⟩ ⟨(Nat.le_of_ble_eq_true rfl), (Nat.le_of_ble_eq_true rfl)⟩ ⟨(Nat.le_of_ble_eq_true rfl), (Nat.le_of_ble_eq_true rfl)⟩ (Nat.le_of_ble_eq_true rfl) <|
    V_lconst (v := 0) (tat ok_X9_both_1 (i := 28) (q := 120) rfl rfl) rfl <|
    V_lcmp (tat ok_X9_both_1 (i := 29) (q := 121) rfl rfl) <|
    V_if_ne (tat ok_X9_both_1 (i := 30) (q := 124) rfl rfl) rfl (fun c5 => V_pick [1, 2, 3, 4, 5, 6] rfl (V_X9_both_144_2  hk (jx (P := P) kk (Eq.trans (if_neg c4) (if_neg c5))))) (fun c5 => V_iload_n (tat ok_X9_both_1 (i := 31) (q := 125) rfl rfl) 3 rfl rfl <|
    V_if_ne (tat ok_X9_both_1 (i := 32) (q := 128) rfl rfl) rfl (fun c6 => V_iload_n (tat ok_X9_both_1 (i := 39) (q := 140) rfl rfl) 4 rfl rfl <|
    V_pick [1, 2, 3, 5, 6] rfl (V_X9_both_140_2  hk (jx (P := P) kk (Eq.trans (if_neg c4) (Eq.trans (if_pos c5) (if_neg c6)))))) (fun c6 => V_bipush (tat ok_X9_both_1 (i := 33) (q := 130) rfl rfl) bp_64 <|
    V_iload (tat ok_X9_both_1 (i := 34) (q := 132) rfl rfl) 5 rfl <|
    V_imul (tat ok_X9_both_1 (i := 35) (q := 133) rfl rfl) <|
    V_iload (tat ok_X9_both_1 (i := 36) (q := 135) rfl rfl) 6 rfl <|
    V_iadd (tat ok_X9_both_1 (i := 37) (q := 136) rfl rfl) <|
    V_goto (tat ok_X9_both_1 (i := 38) (q := 139) rfl rfl) rfl <|
    V_pick [1, 2, 3, 5, 6] rfl (V_X9_both_140_2  hk (jx (P := P) kk (Eq.trans (if_neg c4) (Eq.trans (if_pos c5) (if_pos c6))))))))
def F_X9_both_88_2 (I : WI) (L : WL) (a1 : Int32) (a4 : Int32) (a5 : Int32) (a2 : Int32) (a3 : Int32) : (Int32 × Int32) :=
  (F_X9_both_89_2 I L a1 a4 a5 a2 a3 0)
theorem V_X9_both_88_2  {I : WI} {L : WL} {a1 : Int32} {a4 : Int32} {a5 : Int32} {a2 : Int32} {a3 : Int32} {P : (Int32 × Int32) → Prop} {t : Tg} (hk : ∀ x : (Int32 × Int32), P x → V (zM x_X9_both 4 0 0 t) 43 [(0, .ref 33), (1, .int a1), (2, .int (p1 x)), (3, .int (p2 x)), (4, .int a4), (5, .int (a5 + 1))] [] ly0 I L R0 0 0) (kk : P (F_X9_both_88_2 I L a1 a4 a5 a2 a3)) : V (zM x_X9_both 4 0 0 t) 88 [(0, .ref 33), (1, .int a1), (2, .int a2), (3, .int a3), (4, .int a4), (5, .int a5)] [] ly0 I L R0 0 0 :=
  V_iconst (tat ok_X9_both_1 (i := 9) (q := 89) rfl rfl) ic_0 <|
    V_X9_both_89_2 rfl hk (jx (P := P) kk rfl)
def F_X9_both_50_2 (I : WI) (L : WL) (a1 : Int32) (a4 : Int32) (a5 : Int32) (a2 : Int32) (a3 : Int32) : (Int32 × Int32) :=
  (if (F_X9_isSquare I (a4 / 8) (a4 - a4 / 8 * 8)) = 0 then (F_X9_both_88_2 I L a1 a4 a5 a2 a3) else (if (F_X9_isSquare I (a5 / 8) (a5 - a5 / 8 * 8)) = 0 then (F_X9_both_88_2 I L a1 a4 a5 a2 a3) else (F_X9_both_89_2 I L a1 a4 a5 a2 a3 1)))
theorem V_X9_both_50_2  {I : WI} {L : WL} {a1 : Int32} {a4 : Int32} {a5 : Int32} {a2 : Int32} {a3 : Int32} {P : (Int32 × Int32) → Prop} {t : Tg} (hk : ∀ x : (Int32 × Int32), P x → V (zM x_X9_both 4 0 0 t) 43 [(0, .ref 33), (1, .int a1), (2, .int (p1 x)), (3, .int (p2 x)), (4, .int a4), (5, .int (a5 + 1))] [] ly0 I L R0 0 0) (kk : P (F_X9_both_50_2 I L a1 a4 a5 a2 a3)) : V (zM x_X9_both 4 0 0 t) 50 [(0, .ref 33), (1, .int a1), (2, .int a2), (3, .int a3), (4, .int a4), (5, .int a5)] [] ly0 I L R0 0 0 :=
  V_aload_n (tat ok_X9_both_0 (i := 29) (q := 51) rfl rfl) 0 rfl rfl <|
    V_iload (tat ok_X9_both_0 (i := 30) (q := 53) rfl rfl) 4 rfl <|
    V_bipush (tat ok_X9_both_0 (i := 31) (q := 55) rfl rfl) bp_8 <|
    V_idiv (tat ok_X9_both_0 (i := 32) (q := 56) rfl rfl) (by decide) <|
    V_iload (tat ok_X9_both_0 (i := 33) (q := 58) rfl rfl) 4 rfl <|
    V_bipush (tat ok_X9_both_0 (i := 34) (q := 60) rfl rfl) bp_8 <|
    V_irem (tat ok_X9_both_0 (i := 35) (q := 61) rfl rfl) (by decide) <|
    V_cv2 (ct_X9_isSquare I L (a4 / 8) (a4 - a4 / 8 * 8) ) mo_X9_isSquare (tat ok_X9_both_0 (i := 36) (q := 64) rfl rfl) ml_X9_206 rfl ⟨by decide, _, rfl, rfl⟩ ⟨(Nat.le_of_ble_eq_true rfl), (Nat.le_of_ble_eq_true rfl)⟩ ⟨(Nat.le_of_ble_eq_true rfl), (Nat.le_of_ble_eq_true rfl)⟩ (Nat.le_of_ble_eq_true rfl) <|
    V_if_eq (tat ok_X9_both_0 (i := 37) (q := 67) rfl rfl) rfl (fun c3 => V_X9_both_88_2  hk (jx (P := P) kk (if_pos c3))) (fun c3 => V_aload_n (tat ok_X9_both_0 (i := 38) (q := 68) rfl rfl) 0 rfl rfl <|
    V_iload (tat ok_X9_both_0 (i := 39) (q := 70) rfl rfl) 5 rfl <|
    V_bipush (tat ok_X9_both_1 (i := 0) (q := 72) rfl rfl) bp_8 <|
    V_idiv (tat ok_X9_both_1 (i := 1) (q := 73) rfl rfl) (by decide) <|
    V_iload (tat ok_X9_both_1 (i := 2) (q := 75) rfl rfl) 5 rfl <|
    V_bipush (tat ok_X9_both_1 (i := 3) (q := 77) rfl rfl) bp_8 <|
    V_irem (tat ok_X9_both_1 (i := 4) (q := 78) rfl rfl) (by decide) <|
    V_cv2 (ct_X9_isSquare I L (a5 / 8) (a5 - a5 / 8 * 8) ) mo_X9_isSquare (tat ok_X9_both_1 (i := 5) (q := 81) rfl rfl) ml_X9_206 rfl ⟨by decide, _, rfl, rfl⟩ ⟨(Nat.le_of_ble_eq_true rfl), (Nat.le_of_ble_eq_true rfl)⟩ ⟨(Nat.le_of_ble_eq_true rfl), (Nat.le_of_ble_eq_true rfl)⟩ (Nat.le_of_ble_eq_true rfl) <|
    V_if_eq (tat ok_X9_both_1 (i := 6) (q := 84) rfl rfl) rfl (fun c7 => V_X9_both_88_2  hk (jx (P := P) kk (Eq.trans (if_neg c3) (if_pos c7)))) (fun c7 => V_iconst (tat ok_X9_both_1 (i := 7) (q := 85) rfl rfl) ic_1 <|
    V_goto (tat ok_X9_both_1 (i := 8) (q := 88) rfl rfl) rfl <|
    V_X9_both_89_2 rfl hk (jx (P := P) kk (Eq.trans (if_neg c3) (if_neg c7)))))
def F_X9_both_150_1 (I : WI) (L : WL) (a1 : Int32) (a4 : Int32) (a2 : Int32) (a3 : Int32) : (Int32 × Int32) :=
  (a2, a3)
theorem V_X9_both_150_1  {I : WI} {L : WL} {a1 : Int32} {a4 : Int32} {a2 : Int32} {a3 : Int32} {P : (Int32 × Int32) → Prop} {t : Tg} (hk : ∀ x : (Int32 × Int32), P x → V (zM x_X9_both 4 0 0 t) 30 [(0, .ref 33), (1, .int a1), (2, .int (p1 x)), (3, .int (p2 x)), (4, .int (a4 + 1))] [] ly0 I L R0 0 0) (kk : P (F_X9_both_150_1 I L a1 a4 a2 a3)) : V (zM x_X9_both 4 0 0 t) 150 [(0, .ref 33), (1, .int a1), (2, .int a2), (3, .int a3), (4, .int a4)] [] ly0 I L R0 0 0 :=
  V_iinc (v := (a4 + 1)) (lv' := [(4, .int (a4 + 1)), (0, .ref 33), (1, .int a1), (2, .int a2), (3, .int a3)]) (tat ok_X9_both_2 (i := 4) (q := 153) rfl rfl) 4 rfl (ia ic_1) (Nat.le_of_ble_eq_true rfl) rfl <|
    V_goto (tat ok_X9_both_2 (i := 5) (q := 156) rfl rfl) rfl <|
    V_pick [1, 2, 3, 4, 0] rfl (hk (a2, a3) (jx (P := P) kk rfl))
def F_X9_both_43_1 (I : WI) (L : WL) (a1 : Int32) (a4 : Int32) (a2 : Int32) (a3 : Int32) (a5 : Int32) : (Int32 × Int32) :=
  (fun q : Int32 × (Int32 × Int32) => (F_X9_both_150_1 I L a1 a4 (p1 (p2 q)) (p2 (p2 q)))) (fr0 (fun i x => (F_X9_both_50_2 I L a1 a4 i (p1 x) (p2 x))) 64 (fu a5 64) a5 (a2, a3))
theorem V_X9_both_43_1  {I : WI} {L : WL} {a1 : Int32} {a4 : Int32} {a2 : Int32} {a3 : Int32} {a5 : Int32} {P : (Int32 × Int32) → Prop} {t : Tg} (hk : ∀ x : (Int32 × Int32), P x → V (zM x_X9_both 4 0 0 t) 30 [(0, .ref 33), (1, .int a1), (2, .int (p1 x)), (3, .int (p2 x)), (4, .int (a4 + 1))] [] ly0 I L R0 0 0) (kk : P (F_X9_both_43_1 I L a1 a4 a2 a3 a5)) : V (zM x_X9_both 4 0 0 t) 43 [(0, .ref 33), (1, .int a1), (2, .int a2), (3, .int a3), (4, .int a4), (5, .int a5)] [] ly0 I L R0 0 0 :=
  V_fr0 (fun i x => (F_X9_both_50_2 I L a1 a4 i (p1 x) (p2 x))) 64 (fun i x => V (zM x_X9_both 4 0 0 t) 43 [(0, .ref 33), (1, .int a1), (2, .int (p1 x)), (3, .int (p2 x)), (4, .int a4), (5, .int i)] [] ly0 I L R0 0 0) (fun i x => P ((F_X9_both_150_1 I L a1 a4 (p1 x) (p2 x)))) (c := a5) (s := (a2, a3)) (fun i x kx kb => V_iload (tat ok_X9_both_0 (i := 26) (q := 45) rfl rfl) 5 rfl <|
    V_bipush (tat ok_X9_both_0 (i := 27) (q := 47) rfl rfl) bp_64 <|
    V_icmp_ge (tat ok_X9_both_0 (i := 28) (q := 50) rfl rfl) rfl (fun c0 => V_pick [0, 1, 2, 3, 4] rfl (V_X9_both_150_1  hk (kx c0))) (fun c0 => V_X9_both_50_2 (P := (fun x => (fun i x => V (zM x_X9_both 4 0 0 t) 43 [(0, .ref 33), (1, .int a1), (2, .int (p1 x)), (3, .int (p2 x)), (4, .int a4), (5, .int i)] [] ly0 I L R0 0 0) (i + 1) x))  (fun _ e => e) (kb c0))) kk
def F_X9_both_37_1 (I : WI) (L : WL) (a1 : Int32) (a4 : Int32) (a2 : Int32) (a3 : Int32) : (Int32 × Int32) :=
  (F_X9_both_43_1 I L a1 a4 a2 a3 (a4 + 1))
theorem V_X9_both_37_1  {I : WI} {L : WL} {a1 : Int32} {a4 : Int32} {a2 : Int32} {a3 : Int32} {P : (Int32 × Int32) → Prop} {t : Tg} (hk : ∀ x : (Int32 × Int32), P x → V (zM x_X9_both 4 0 0 t) 30 [(0, .ref 33), (1, .int a1), (2, .int (p1 x)), (3, .int (p2 x)), (4, .int (a4 + 1))] [] ly0 I L R0 0 0) (kk : P (F_X9_both_37_1 I L a1 a4 a2 a3)) : V (zM x_X9_both 4 0 0 t) 37 [(0, .ref 33), (1, .int a1), (2, .int a2), (3, .int a3), (4, .int a4)] [] ly0 I L R0 0 0 :=
  V_iload (tat ok_X9_both_0 (i := 22) (q := 39) rfl rfl) 4 rfl <|
    V_iconst (tat ok_X9_both_0 (i := 23) (q := 40) rfl rfl) ic_1 <|
    V_iadd (tat ok_X9_both_0 (i := 24) (q := 41) rfl rfl) <|
    V_istore (lv' := [(5, .int (a4 + 1)), (0, .ref 33), (1, .int a1), (2, .int a2), (3, .int a3), (4, .int a4)]) (tat ok_X9_both_0 (i := 25) (q := 43) rfl rfl) (Nat.le_of_ble_eq_true rfl) rfl <|
    V_pick [1, 2, 3, 4, 5, 0] rfl (V_X9_both_43_1  hk (jx (P := P) kk rfl))
def F_X9_both_165 (I : WI) (L : WL) (a1 : Int32) (s0 : Int32) : Int32 :=
  s0
theorem V_X9_both_165  {I : WI} {L : WL} {a1 : Int32} {s0 : Int32} {P : Int32 → Prop} {t : Tg} (hr : ∀ v, P v → t = (some (.int v), ly0, I, L, R0)) (kk : P (F_X9_both_165 I L a1 s0)) : V (zM x_X9_both 4 0 0 t) 165 [(0, .ref 33), (1, .int a1)] [.int s0] ly0 I L R0 0 0 :=
  V_iret (tat ok_X9_both_2 (i := 11) (q := 166) rfl rfl) _ rfl (nar_int _) (hr s0 (jx (P := P) kk rfl)) ⟨(Nat.le_of_ble_eq_true rfl), (Nat.le_of_ble_eq_true rfl)⟩
def F_X9_both_156 (I : WI) (L : WL) (a1 : Int32) (a2 : Int32) (a3 : Int32) : Int32 :=
  (if a1 = 0 then (F_X9_both_165 I L a1 a2) else (F_X9_both_165 I L a1 a3))
theorem V_X9_both_156  {I : WI} {L : WL} {a1 : Int32} {a2 : Int32} {a3 : Int32} {P : Int32 → Prop} {t : Tg} (hr : ∀ v, P v → t = (some (.int v), ly0, I, L, R0)) (kk : P (F_X9_both_156 I L a1 a2 a3)) : V (zM x_X9_both 4 0 0 t) 156 [(0, .ref 33), (1, .int a1), (2, .int a2), (3, .int a3)] [] ly0 I L R0 0 0 :=
  V_iload_n (tat ok_X9_both_2 (i := 6) (q := 157) rfl rfl) 1 rfl rfl <|
    V_if_ne (tat ok_X9_both_2 (i := 7) (q := 160) rfl rfl) rfl (fun c8 => V_iload_n (tat ok_X9_both_2 (i := 10) (q := 165) rfl rfl) 3 rfl rfl <|
    V_pick [0, 1] rfl (V_X9_both_165  hr (jx (P := P) kk (if_neg c8)))) (fun c8 => V_iload_n (tat ok_X9_both_2 (i := 8) (q := 161) rfl rfl) 2 rfl rfl <|
    V_goto (tat ok_X9_both_2 (i := 9) (q := 164) rfl rfl) rfl <|
    V_pick [0, 1] rfl (V_X9_both_165  hr (jx (P := P) kk (if_pos c8))))
def F_X9_both_30 (I : WI) (L : WL) (a1 : Int32) (a2 : Int32) (a3 : Int32) (a4 : Int32) : Int32 :=
  (fun q : Int32 × (Int32 × Int32) => (F_X9_both_156 I L a1 (p1 (p2 q)) (p2 (p2 q)))) (fr0 (fun i x => (F_X9_both_37_1 I L a1 i (p1 x) (p2 x))) 64 (fu a4 64) a4 (a2, a3))
theorem V_X9_both_30  {I : WI} {L : WL} {a1 : Int32} {a2 : Int32} {a3 : Int32} {a4 : Int32} {P : Int32 → Prop} {t : Tg} (hb2 : bz a2 = a2) (hb4 : bz a4 = a4) (hr : ∀ v, P v → t = (some (.int v), ly0, I, L, R0)) (kk : P (F_X9_both_30 I L a1 a2 a3 a4)) : V (zM x_X9_both 4 0 0 t) 30 [(0, .ref 33), (1, .int a1), (2, .int a2), (3, .int a3), (4, .int a4)] [] ly0 I L R0 0 0 :=
  V_fr0 (fun i x => (F_X9_both_37_1 I L a1 i (p1 x) (p2 x))) 64 (fun i x => V (zM x_X9_both 4 0 0 t) 30 [(0, .ref 33), (1, .int a1), (2, .int (p1 x)), (3, .int (p2 x)), (4, .int i)] [] ly0 I L R0 0 0) (fun i x => P ((F_X9_both_156 I L a1 (p1 x) (p2 x)))) (c := a4) (s := (a2, a3)) (fun i x kx kb => V_iload (tat ok_X9_both_0 (i := 19) (q := 32) rfl rfl) 4 rfl <|
    V_bipush (tat ok_X9_both_0 (i := 20) (q := 34) rfl rfl) bp_64 <|
    V_icmp_ge (tat ok_X9_both_0 (i := 21) (q := 37) rfl rfl) rfl (fun c0 => V_pick [0, 1, 2, 3] rfl (V_X9_both_156  hr (kx c0))) (fun c0 => V_X9_both_37_1 (P := (fun x => (fun i x => V (zM x_X9_both 4 0 0 t) 30 [(0, .ref 33), (1, .int a1), (2, .int (p1 x)), (3, .int (p2 x)), (4, .int i)] [] ly0 I L R0 0 0) (i + 1) x))  (fun _ e => e) (kb c0))) kk
def F_X9_both (I : WI) (L : WL) (a1 : Int32) : Int32 :=
  (if (F_X9_in (Int32.toInt64 a1) 0 1) = 0 then (-1) else (if (bz (I 33 4)) = 0 then (-2) else (F_X9_both_30 I L a1 0 (-4) 0)))
theorem V_X9_both  {I : WI} {L : WL} {a1 : Int32}  {P : Int32 → Prop} {t : Tg} (hr : ∀ v, P v → t = (some (.int v), ly0, I, L, R0)) (kk : P (F_X9_both I L a1)) : V (zM x_X9_both 4 0 0 t) 0 [(0, .ref 33), (1, .int a1)] [] ly0 I L R0 0 0 :=
  V_iload_n (tat ok_X9_both_0 (i := 0) (q := 1) rfl rfl) 1 rfl rfl <|
    V_i2l (tat ok_X9_both_0 (i := 1) (q := 2) rfl rfl) <|
    V_lconst (v := 0) (tat ok_X9_both_0 (i := 2) (q := 3) rfl rfl) rfl <|
    V_lconst (v := 1) (tat ok_X9_both_0 (i := 3) (q := 4) rfl rfl) rfl <|
    V_cs3 (ct_X9_in I L (Int32.toInt64 a1) 0 1 ) mo_X9_in (tat ok_X9_both_0 (i := 4) (q := 7) rfl rfl) ml_X9_97 ⟨(Nat.le_of_ble_eq_true rfl), (Nat.le_of_ble_eq_true rfl)⟩ ⟨(Nat.le_of_ble_eq_true rfl), (Nat.le_of_ble_eq_true rfl)⟩ (Nat.le_of_ble_eq_true rfl) <|
    V_if_ne (tat ok_X9_both_0 (i := 5) (q := 10) rfl rfl) rfl (fun c1 => V_aload_n (tat ok_X9_both_0 (i := 8) (q := 13) rfl rfl) 0 rfl rfl <|
    V_getZ (tat ok_X9_both_0 (i := 9) (q := 16) rfl rfl) fk_X9_86 rfl <|
    V_if_ne (tat ok_X9_both_0 (i := 10) (q := 19) rfl rfl) rfl (fun c2 => V_iconst (tat ok_X9_both_0 (i := 13) (q := 23) rfl rfl) ic_0 <|
    V_istore_n (lv' := [(2, .int 0), (0, .ref 33), (1, .int a1)]) (tat ok_X9_both_0 (i := 14) (q := 24) rfl rfl) rfl (Nat.le_of_ble_eq_true rfl) rfl <|
    V_bipush (tat ok_X9_both_0 (i := 15) (q := 26) rfl rfl) bp_m4 <|
    V_istore_n (lv' := [(3, .int (-4)), (2, .int 0), (0, .ref 33), (1, .int a1)]) (tat ok_X9_both_0 (i := 16) (q := 27) rfl rfl) rfl (Nat.le_of_ble_eq_true rfl) rfl <|
    V_iconst (tat ok_X9_both_0 (i := 17) (q := 28) rfl rfl) ic_0 <|
    V_istore (lv' := [(4, .int 0), (3, .int (-4)), (2, .int 0), (0, .ref 33), (1, .int a1)]) (tat ok_X9_both_0 (i := 18) (q := 30) rfl rfl) (Nat.le_of_ble_eq_true rfl) rfl <|
    V_pick [3, 4, 2, 1, 0] rfl (V_X9_both_30 rfl rfl hr (jx (P := P) kk (Eq.trans (if_neg c1) (if_neg c2))))) (fun c2 => V_bipush (tat ok_X9_both_0 (i := 11) (q := 21) rfl rfl) bp_m2 <|
    V_iret (tat ok_X9_both_0 (i := 12) (q := 22) rfl rfl) _ rfl (nar_int _) (hr (-2) (jx (P := P) kk (Eq.trans (if_neg c1) (if_pos c2)))) ⟨(Nat.le_of_ble_eq_true rfl), (Nat.le_of_ble_eq_true rfl)⟩)) (fun c1 => V_iconst (tat ok_X9_both_0 (i := 6) (q := 11) rfl rfl) ic_m1 <|
    V_iret (tat ok_X9_both_0 (i := 7) (q := 12) rfl rfl) _ rfl (nar_int _) (hr (-1) (jx (P := P) kk (if_pos c1))) ⟨(Nat.le_of_ble_eq_true rfl), (Nat.le_of_ble_eq_true rfl)⟩)
theorem ct_X9_both  (I : WI) (L : WL) (a1 : Int32)  : Ct x_X9_both 4 [.ref 33, .int a1] ly0 I L R0 0 0 (some (.int (F_X9_both I L a1)), ly0, I, L, R0) :=
  Ct_of_V mo_X9_both.1 (Nat.le_of_ble_eq_true rfl) (V_X9_both (P := fun x => x = (F_X9_both I L a1))  (fun _ e => by rw [e]) rfl)
def F_X9_mirrored_50_2 (a0 : Int64) (a2 : Int32) (a3 : Int32) (a6 : Int32) (a7 : Int32) (s0 : Int64) (s1 : Int64) : Int64 :=
  (s1 ||| s0)
theorem V_X9_mirrored_50_2  {I : WI} {L : WL} {a0 : Int64} {a2 : Int32} {a3 : Int32} {a6 : Int32} {a7 : Int32} {s0 : Int64} {s1 : Int64} {P : Int64 → Prop} {t : Tg} (hk : ∀ x : Int64, P x → V (zM x_X9_mirrored 2 0 0 t) 15 [(0, .long a0), (2, .int a2), (3, .int a3), (4, .long x), (6, .int a6), (7, .int (a7 + 1))] [] ly0 I L R0 0 0) (kk : P (F_X9_mirrored_50_2 a0 a2 a3 a6 a7 s0 s1)) : V (zM x_X9_mirrored 2 0 0 t) 50 [(0, .long a0), (2, .int a2), (3, .int a3), (6, .int a6), (7, .int a7)] [.long s0, .long s1] ly0 I L R0 0 0 :=
  V_lor (tat ok_X9_mirrored_0 (i := 28) (q := 51) rfl rfl) <|
    V_lstore (lv' := [(4, .long (s1 ||| s0)), (0, .long a0), (2, .int a2), (3, .int a3), (6, .int a6), (7, .int a7)]) (tat ok_X9_mirrored_0 (i := 29) (q := 53) rfl rfl) (Nat.le_of_ble_eq_true rfl) rfl <|
    V_iinc (v := (a7 + 1)) (lv' := [(7, .int (a7 + 1)), (4, .long (s1 ||| s0)), (0, .long a0), (2, .int a2), (3, .int a3), (6, .int a6)]) (tat ok_X9_mirrored_0 (i := 30) (q := 56) rfl rfl) 5 rfl (ia ic_1) (Nat.le_of_ble_eq_true rfl) rfl <|
    V_goto (tat ok_X9_mirrored_0 (i := 31) (q := 59) rfl rfl) rfl <|
    V_pick [2, 3, 4, 1, 5, 0] rfl (hk (s1 ||| s0) (jx (P := P) kk rfl))
def F_X9_mirrored_21_2 (a0 : Int64) (a2 : Int32) (a3 : Int32) (a6 : Int32) (a7 : Int32) (a4 : Int64) : Int64 :=
  (if (F_X9_isDark a0 a6 a7) = 1 then (F_X9_mirrored_50_2 a0 a2 a3 a6 a7 (F_X9_bitOf a6 ((a3 - 1) - a7)) a4) else (F_X9_mirrored_50_2 a0 a2 a3 a6 a7 0 a4))
theorem V_X9_mirrored_21_2  {I : WI} {L : WL} {a0 : Int64} {a2 : Int32} {a3 : Int32} {a6 : Int32} {a7 : Int32} {a4 : Int64} {P : Int64 → Prop} {t : Tg} (hk : ∀ x : Int64, P x → V (zM x_X9_mirrored 2 0 0 t) 15 [(0, .long a0), (2, .int a2), (3, .int a3), (4, .long x), (6, .int a6), (7, .int (a7 + 1))] [] ly0 I L R0 0 0) (kk : P (F_X9_mirrored_21_2 a0 a2 a3 a6 a7 a4)) : V (zM x_X9_mirrored 2 0 0 t) 21 [(0, .long a0), (2, .int a2), (3, .int a3), (4, .long a4), (6, .int a6), (7, .int a7)] [] ly0 I L R0 0 0 :=
  V_lload (tat ok_X9_mirrored_0 (i := 12) (q := 23) rfl rfl) 3 rfl <|
    V_lload_n (tat ok_X9_mirrored_0 (i := 13) (q := 24) rfl rfl) 0 rfl rfl <|
    V_iload (tat ok_X9_mirrored_0 (i := 14) (q := 26) rfl rfl) 4 rfl <|
    V_iload (tat ok_X9_mirrored_0 (i := 15) (q := 28) rfl rfl) 5 rfl <|
    V_cs3 (ct_X9_isDark I L a0 a6 a7 ) mo_X9_isDark (tat ok_X9_mirrored_0 (i := 16) (q := 31) rfl rfl) ml_X9_210 ⟨(Nat.le_of_ble_eq_true rfl), (Nat.le_of_ble_eq_true rfl)⟩ ⟨(Nat.le_of_ble_eq_true rfl), (Nat.le_of_ble_eq_true rfl)⟩ (Nat.le_of_ble_eq_true rfl) <|
    V_iconst (tat ok_X9_mirrored_0 (i := 17) (q := 32) rfl rfl) ic_1 <|
    V_icmp_ne (tat ok_X9_mirrored_0 (i := 18) (q := 35) rfl rfl) rfl (fun c1 => V_lconst (v := 0) (tat ok_X9_mirrored_0 (i := 27) (q := 50) rfl rfl) rfl <|
    V_pick [0, 1, 2, 4, 5] rfl (V_X9_mirrored_50_2  hk (jx (P := P) kk (if_neg c1)))) (fun c1 => V_iload (tat ok_X9_mirrored_0 (i := 19) (q := 37) rfl rfl) 4 rfl <|
    V_iload_n (tat ok_X9_mirrored_0 (i := 20) (q := 38) rfl rfl) 2 rfl rfl <|
    V_iconst (tat ok_X9_mirrored_0 (i := 21) (q := 39) rfl rfl) ic_1 <|
    V_isub (tat ok_X9_mirrored_0 (i := 22) (q := 40) rfl rfl) <|
    V_iload (tat ok_X9_mirrored_0 (i := 23) (q := 42) rfl rfl) 5 rfl <|
    V_isub (tat ok_X9_mirrored_0 (i := 24) (q := 43) rfl rfl) <|
    V_cs2 (ct_X9_bitOf I L a6 ((a3 - 1) - a7) ) mo_X9_bitOf (tat ok_X9_mirrored_0 (i := 25) (q := 46) rfl rfl) ml_X9_155 ⟨(Nat.le_of_ble_eq_true rfl), (Nat.le_of_ble_eq_true rfl)⟩ ⟨(Nat.le_of_ble_eq_true rfl), (Nat.le_of_ble_eq_true rfl)⟩ (Nat.le_of_ble_eq_true rfl) <|
    V_goto (tat ok_X9_mirrored_0 (i := 26) (q := 49) rfl rfl) rfl <|
    V_pick [0, 1, 2, 4, 5] rfl (V_X9_mirrored_50_2  hk (jx (P := P) kk (if_pos c1))))
def F_X9_mirrored_59_1 (a0 : Int64) (a2 : Int32) (a3 : Int32) (a6 : Int32) (a4 : Int64) : Int64 :=
  a4
theorem V_X9_mirrored_59_1  {I : WI} {L : WL} {a0 : Int64} {a2 : Int32} {a3 : Int32} {a6 : Int32} {a4 : Int64} {P : Int64 → Prop} {t : Tg} (hk : ∀ x : Int64, P x → V (zM x_X9_mirrored 2 0 0 t) 6 [(0, .long a0), (2, .int a2), (3, .int a3), (4, .long x), (6, .int (a6 + 1))] [] ly0 I L R0 0 0) (kk : P (F_X9_mirrored_59_1 a0 a2 a3 a6 a4)) : V (zM x_X9_mirrored 2 0 0 t) 59 [(0, .long a0), (2, .int a2), (3, .int a3), (4, .long a4), (6, .int a6)] [] ly0 I L R0 0 0 :=
  V_iinc (v := (a6 + 1)) (lv' := [(6, .int (a6 + 1)), (0, .long a0), (2, .int a2), (3, .int a3), (4, .long a4)]) (tat ok_X9_mirrored_0 (i := 32) (q := 62) rfl rfl) 4 rfl (ia ic_1) (Nat.le_of_ble_eq_true rfl) rfl <|
    V_goto (tat ok_X9_mirrored_0 (i := 33) (q := 65) rfl rfl) rfl <|
    V_pick [1, 2, 3, 4, 0] rfl (hk a4 (jx (P := P) kk rfl))
def F_X9_mirrored_15_1 (a0 : Int64) (a2 : Int32) (a3 : Int32) (a6 : Int32) (a4 : Int64) (a7 : Int32) : Int64 :=
  (fun q : Int32 × Int64 => (F_X9_mirrored_59_1 a0 a2 a3 a6 (p2 q))) (fr0 (fun i x => (F_X9_mirrored_21_2 a0 a2 a3 a6 i x)) a3 (fu a7 a3) a7 a4)
theorem V_X9_mirrored_15_1  {I : WI} {L : WL} {a0 : Int64} {a2 : Int32} {a3 : Int32} {a6 : Int32} {a4 : Int64} {a7 : Int32} {P : Int64 → Prop} {t : Tg} (hb7 : bz a7 = a7) (hk : ∀ x : Int64, P x → V (zM x_X9_mirrored 2 0 0 t) 6 [(0, .long a0), (2, .int a2), (3, .int a3), (4, .long x), (6, .int (a6 + 1))] [] ly0 I L R0 0 0) (kk : P (F_X9_mirrored_15_1 a0 a2 a3 a6 a4 a7)) : V (zM x_X9_mirrored 2 0 0 t) 15 [(0, .long a0), (2, .int a2), (3, .int a3), (4, .long a4), (6, .int a6), (7, .int a7)] [] ly0 I L R0 0 0 :=
  V_fr0 (fun i x => (F_X9_mirrored_21_2 a0 a2 a3 a6 i x)) a3 (fun i x => V (zM x_X9_mirrored 2 0 0 t) 15 [(0, .long a0), (2, .int a2), (3, .int a3), (4, .long x), (6, .int a6), (7, .int i)] [] ly0 I L R0 0 0) (fun i x => P ((F_X9_mirrored_59_1 a0 a2 a3 a6 x))) (c := a7) (s := a4) (fun i x kx kb => V_iload (tat ok_X9_mirrored_0 (i := 9) (q := 17) rfl rfl) 5 rfl <|
    V_iload_n (tat ok_X9_mirrored_0 (i := 10) (q := 18) rfl rfl) 2 rfl rfl <|
    V_icmp_ge (tat ok_X9_mirrored_0 (i := 11) (q := 21) rfl rfl) rfl (fun c0 => V_pick [0, 1, 2, 3, 4] rfl (V_X9_mirrored_59_1  hk (kx c0))) (fun c0 => V_X9_mirrored_21_2 (P := (fun x => (fun i x => V (zM x_X9_mirrored 2 0 0 t) 15 [(0, .long a0), (2, .int a2), (3, .int a3), (4, .long x), (6, .int a6), (7, .int i)] [] ly0 I L R0 0 0) (i + 1) x))  (fun _ e => e) (kb c0))) kk
def F_X9_mirrored_12_1 (a0 : Int64) (a2 : Int32) (a3 : Int32) (a6 : Int32) (a4 : Int64) : Int64 :=
  (F_X9_mirrored_15_1 a0 a2 a3 a6 a4 0)
theorem V_X9_mirrored_12_1  {I : WI} {L : WL} {a0 : Int64} {a2 : Int32} {a3 : Int32} {a6 : Int32} {a4 : Int64} {P : Int64 → Prop} {t : Tg} (hk : ∀ x : Int64, P x → V (zM x_X9_mirrored 2 0 0 t) 6 [(0, .long a0), (2, .int a2), (3, .int a3), (4, .long x), (6, .int (a6 + 1))] [] ly0 I L R0 0 0) (kk : P (F_X9_mirrored_12_1 a0 a2 a3 a6 a4)) : V (zM x_X9_mirrored 2 0 0 t) 12 [(0, .long a0), (2, .int a2), (3, .int a3), (4, .long a4), (6, .int a6)] [] ly0 I L R0 0 0 :=
  V_iconst (tat ok_X9_mirrored_0 (i := 7) (q := 13) rfl rfl) ic_0 <|
    V_istore (lv' := [(7, .int 0), (0, .long a0), (2, .int a2), (3, .int a3), (4, .long a4), (6, .int a6)]) (tat ok_X9_mirrored_0 (i := 8) (q := 15) rfl rfl) (Nat.le_of_ble_eq_true rfl) rfl <|
    V_pick [1, 2, 3, 4, 5, 0] rfl (V_X9_mirrored_15_1 rfl hk (jx (P := P) kk rfl))
def F_X9_mirrored_65 (a0 : Int64) (a2 : Int32) (a3 : Int32) (a4 : Int64) : Int64 :=
  a4
theorem V_X9_mirrored_65  {I : WI} {L : WL} {a0 : Int64} {a2 : Int32} {a3 : Int32} {a4 : Int64} {P : Int64 → Prop} {t : Tg} (hr : ∀ v, P v → t = (some (.long v), ly0, I, L, R0)) (kk : P (F_X9_mirrored_65 a0 a2 a3 a4)) : V (zM x_X9_mirrored 2 0 0 t) 65 [(0, .long a0), (2, .int a2), (3, .int a3), (4, .long a4)] [] ly0 I L R0 0 0 :=
  V_lload (tat ok_X9_mirrored_0 (i := 34) (q := 67) rfl rfl) 3 rfl <|
    V_lret (tat ok_X9_mirrored_0 (i := 35) (q := 68) rfl rfl) rfl (hr a4 (jx (P := P) kk rfl)) ⟨(Nat.le_of_ble_eq_true rfl), (Nat.le_of_ble_eq_true rfl)⟩
def F_X9_mirrored_6 (a0 : Int64) (a2 : Int32) (a3 : Int32) (a4 : Int64) (a6 : Int32) : Int64 :=
  (fun q : Int32 × Int64 => (F_X9_mirrored_65 a0 a2 a3 (p2 q))) (fr0 (fun i x => (F_X9_mirrored_12_1 a0 a2 a3 i x)) a2 (fu a6 a2) a6 a4)
theorem V_X9_mirrored_6  {I : WI} {L : WL} {a0 : Int64} {a2 : Int32} {a3 : Int32} {a4 : Int64} {a6 : Int32} {P : Int64 → Prop} {t : Tg} (hb6 : bz a6 = a6) (hr : ∀ v, P v → t = (some (.long v), ly0, I, L, R0)) (kk : P (F_X9_mirrored_6 a0 a2 a3 a4 a6)) : V (zM x_X9_mirrored 2 0 0 t) 6 [(0, .long a0), (2, .int a2), (3, .int a3), (4, .long a4), (6, .int a6)] [] ly0 I L R0 0 0 :=
  V_fr0 (fun i x => (F_X9_mirrored_12_1 a0 a2 a3 i x)) a2 (fun i x => V (zM x_X9_mirrored 2 0 0 t) 6 [(0, .long a0), (2, .int a2), (3, .int a3), (4, .long x), (6, .int i)] [] ly0 I L R0 0 0) (fun i x => P ((F_X9_mirrored_65 a0 a2 a3 x))) (c := a6) (s := a4) (fun i x kx kb => V_iload (tat ok_X9_mirrored_0 (i := 4) (q := 8) rfl rfl) 4 rfl <|
    V_iload_n (tat ok_X9_mirrored_0 (i := 5) (q := 9) rfl rfl) 1 rfl rfl <|
    V_icmp_ge (tat ok_X9_mirrored_0 (i := 6) (q := 12) rfl rfl) rfl (fun c0 => V_pick [0, 1, 2, 3] rfl (V_X9_mirrored_65  hr (kx c0))) (fun c0 => V_X9_mirrored_12_1 (P := (fun x => (fun i x => V (zM x_X9_mirrored 2 0 0 t) 6 [(0, .long a0), (2, .int a2), (3, .int a3), (4, .long x), (6, .int i)] [] ly0 I L R0 0 0) (i + 1) x))  (fun _ e => e) (kb c0))) kk
def F_X9_mirrored (a0 : Int64) (a2 : Int32) (a3 : Int32) : Int64 :=
  (F_X9_mirrored_6 a0 a2 a3 0 0)
theorem V_X9_mirrored  {I : WI} {L : WL} {a0 : Int64} {a2 : Int32} {a3 : Int32}  {P : Int64 → Prop} {t : Tg} (hr : ∀ v, P v → t = (some (.long v), ly0, I, L, R0)) (kk : P (F_X9_mirrored a0 a2 a3)) : V (zM x_X9_mirrored 2 0 0 t) 0 [(0, .long a0), (2, .int a2), (3, .int a3)] [] ly0 I L R0 0 0 :=
  V_lconst (v := 0) (tat ok_X9_mirrored_0 (i := 0) (q := 1) rfl rfl) rfl <|
    V_lstore (lv' := [(4, .long 0), (0, .long a0), (2, .int a2), (3, .int a3)]) (tat ok_X9_mirrored_0 (i := 1) (q := 3) rfl rfl) (Nat.le_of_ble_eq_true rfl) rfl <|
    V_iconst (tat ok_X9_mirrored_0 (i := 2) (q := 4) rfl rfl) ic_0 <|
    V_istore (lv' := [(6, .int 0), (4, .long 0), (0, .long a0), (2, .int a2), (3, .int a3)]) (tat ok_X9_mirrored_0 (i := 3) (q := 6) rfl rfl) (Nat.le_of_ble_eq_true rfl) rfl <|
    V_pick [2, 3, 4, 1, 0] rfl (V_X9_mirrored_6 rfl hr (jx (P := P) kk rfl))
theorem ct_X9_mirrored  (I : WI) (L : WL) (a0 : Int64) (a2 : Int32) (a3 : Int32)  : Ct x_X9_mirrored 2 [.long a0, .int a2, .int a3] ly0 I L R0 0 0 (some (.long (F_X9_mirrored a0 a2 a3)), ly0, I, L, R0) :=
  Ct_of_V mo_X9_mirrored.1 (Nat.le_of_ble_eq_true rfl) (V_X9_mirrored (P := fun x => x = (F_X9_mirrored a0 a2 a3))  (fun _ e => by rw [e]) rfl)
def F_X9_quarter_50_2 (a0 : Int64) (a2 : Int32) (a3 : Int32) (a6 : Int32) (a7 : Int32) (s0 : Int64) (s1 : Int64) : Int64 :=
  (s1 ||| s0)
theorem V_X9_quarter_50_2  {I : WI} {L : WL} {a0 : Int64} {a2 : Int32} {a3 : Int32} {a6 : Int32} {a7 : Int32} {s0 : Int64} {s1 : Int64} {P : Int64 → Prop} {t : Tg} (hk : ∀ x : Int64, P x → V (zM x_X9_quarter 2 0 0 t) 15 [(0, .long a0), (2, .int a2), (3, .int a3), (4, .long x), (6, .int a6), (7, .int (a7 + 1))] [] ly0 I L R0 0 0) (kk : P (F_X9_quarter_50_2 a0 a2 a3 a6 a7 s0 s1)) : V (zM x_X9_quarter 2 0 0 t) 50 [(0, .long a0), (2, .int a2), (3, .int a3), (6, .int a6), (7, .int a7)] [.long s0, .long s1] ly0 I L R0 0 0 :=
  V_lor (tat ok_X9_quarter_0 (i := 28) (q := 51) rfl rfl) <|
    V_lstore (lv' := [(4, .long (s1 ||| s0)), (0, .long a0), (2, .int a2), (3, .int a3), (6, .int a6), (7, .int a7)]) (tat ok_X9_quarter_0 (i := 29) (q := 53) rfl rfl) (Nat.le_of_ble_eq_true rfl) rfl <|
    V_iinc (v := (a7 + 1)) (lv' := [(7, .int (a7 + 1)), (4, .long (s1 ||| s0)), (0, .long a0), (2, .int a2), (3, .int a3), (6, .int a6)]) (tat ok_X9_quarter_0 (i := 30) (q := 56) rfl rfl) 5 rfl (ia ic_1) (Nat.le_of_ble_eq_true rfl) rfl <|
    V_goto (tat ok_X9_quarter_0 (i := 31) (q := 59) rfl rfl) rfl <|
    V_pick [2, 3, 4, 1, 5, 0] rfl (hk (s1 ||| s0) (jx (P := P) kk rfl))
def F_X9_quarter_21_2 (a0 : Int64) (a2 : Int32) (a3 : Int32) (a6 : Int32) (a7 : Int32) (a4 : Int64) : Int64 :=
  (if (F_X9_isDark a0 a6 a7) = 1 then (F_X9_quarter_50_2 a0 a2 a3 a6 a7 (F_X9_bitOf a7 ((a2 - 1) - a6)) a4) else (F_X9_quarter_50_2 a0 a2 a3 a6 a7 0 a4))
theorem V_X9_quarter_21_2  {I : WI} {L : WL} {a0 : Int64} {a2 : Int32} {a3 : Int32} {a6 : Int32} {a7 : Int32} {a4 : Int64} {P : Int64 → Prop} {t : Tg} (hk : ∀ x : Int64, P x → V (zM x_X9_quarter 2 0 0 t) 15 [(0, .long a0), (2, .int a2), (3, .int a3), (4, .long x), (6, .int a6), (7, .int (a7 + 1))] [] ly0 I L R0 0 0) (kk : P (F_X9_quarter_21_2 a0 a2 a3 a6 a7 a4)) : V (zM x_X9_quarter 2 0 0 t) 21 [(0, .long a0), (2, .int a2), (3, .int a3), (4, .long a4), (6, .int a6), (7, .int a7)] [] ly0 I L R0 0 0 :=
  V_lload (tat ok_X9_quarter_0 (i := 12) (q := 23) rfl rfl) 3 rfl <|
    V_lload_n (tat ok_X9_quarter_0 (i := 13) (q := 24) rfl rfl) 0 rfl rfl <|
    V_iload (tat ok_X9_quarter_0 (i := 14) (q := 26) rfl rfl) 4 rfl <|
    V_iload (tat ok_X9_quarter_0 (i := 15) (q := 28) rfl rfl) 5 rfl <|
    V_cs3 (ct_X9_isDark I L a0 a6 a7 ) mo_X9_isDark (tat ok_X9_quarter_0 (i := 16) (q := 31) rfl rfl) ml_X9_210 ⟨(Nat.le_of_ble_eq_true rfl), (Nat.le_of_ble_eq_true rfl)⟩ ⟨(Nat.le_of_ble_eq_true rfl), (Nat.le_of_ble_eq_true rfl)⟩ (Nat.le_of_ble_eq_true rfl) <|
    V_iconst (tat ok_X9_quarter_0 (i := 17) (q := 32) rfl rfl) ic_1 <|
    V_icmp_ne (tat ok_X9_quarter_0 (i := 18) (q := 35) rfl rfl) rfl (fun c1 => V_lconst (v := 0) (tat ok_X9_quarter_0 (i := 27) (q := 50) rfl rfl) rfl <|
    V_pick [0, 1, 2, 4, 5] rfl (V_X9_quarter_50_2  hk (jx (P := P) kk (if_neg c1)))) (fun c1 => V_iload (tat ok_X9_quarter_0 (i := 19) (q := 37) rfl rfl) 5 rfl <|
    V_iload_n (tat ok_X9_quarter_0 (i := 20) (q := 38) rfl rfl) 1 rfl rfl <|
    V_iconst (tat ok_X9_quarter_0 (i := 21) (q := 39) rfl rfl) ic_1 <|
    V_isub (tat ok_X9_quarter_0 (i := 22) (q := 40) rfl rfl) <|
    V_iload (tat ok_X9_quarter_0 (i := 23) (q := 42) rfl rfl) 4 rfl <|
    V_isub (tat ok_X9_quarter_0 (i := 24) (q := 43) rfl rfl) <|
    V_cs2 (ct_X9_bitOf I L a7 ((a2 - 1) - a6) ) mo_X9_bitOf (tat ok_X9_quarter_0 (i := 25) (q := 46) rfl rfl) ml_X9_155 ⟨(Nat.le_of_ble_eq_true rfl), (Nat.le_of_ble_eq_true rfl)⟩ ⟨(Nat.le_of_ble_eq_true rfl), (Nat.le_of_ble_eq_true rfl)⟩ (Nat.le_of_ble_eq_true rfl) <|
    V_goto (tat ok_X9_quarter_0 (i := 26) (q := 49) rfl rfl) rfl <|
    V_pick [0, 1, 2, 4, 5] rfl (V_X9_quarter_50_2  hk (jx (P := P) kk (if_pos c1))))
def F_X9_quarter_59_1 (a0 : Int64) (a2 : Int32) (a3 : Int32) (a6 : Int32) (a4 : Int64) : Int64 :=
  a4
theorem V_X9_quarter_59_1  {I : WI} {L : WL} {a0 : Int64} {a2 : Int32} {a3 : Int32} {a6 : Int32} {a4 : Int64} {P : Int64 → Prop} {t : Tg} (hk : ∀ x : Int64, P x → V (zM x_X9_quarter 2 0 0 t) 6 [(0, .long a0), (2, .int a2), (3, .int a3), (4, .long x), (6, .int (a6 + 1))] [] ly0 I L R0 0 0) (kk : P (F_X9_quarter_59_1 a0 a2 a3 a6 a4)) : V (zM x_X9_quarter 2 0 0 t) 59 [(0, .long a0), (2, .int a2), (3, .int a3), (4, .long a4), (6, .int a6)] [] ly0 I L R0 0 0 :=
  V_iinc (v := (a6 + 1)) (lv' := [(6, .int (a6 + 1)), (0, .long a0), (2, .int a2), (3, .int a3), (4, .long a4)]) (tat ok_X9_quarter_0 (i := 32) (q := 62) rfl rfl) 4 rfl (ia ic_1) (Nat.le_of_ble_eq_true rfl) rfl <|
    V_goto (tat ok_X9_quarter_0 (i := 33) (q := 65) rfl rfl) rfl <|
    V_pick [1, 2, 3, 4, 0] rfl (hk a4 (jx (P := P) kk rfl))
def F_X9_quarter_15_1 (a0 : Int64) (a2 : Int32) (a3 : Int32) (a6 : Int32) (a4 : Int64) (a7 : Int32) : Int64 :=
  (fun q : Int32 × Int64 => (F_X9_quarter_59_1 a0 a2 a3 a6 (p2 q))) (fr0 (fun i x => (F_X9_quarter_21_2 a0 a2 a3 a6 i x)) a3 (fu a7 a3) a7 a4)
theorem V_X9_quarter_15_1  {I : WI} {L : WL} {a0 : Int64} {a2 : Int32} {a3 : Int32} {a6 : Int32} {a4 : Int64} {a7 : Int32} {P : Int64 → Prop} {t : Tg} (hb7 : bz a7 = a7) (hk : ∀ x : Int64, P x → V (zM x_X9_quarter 2 0 0 t) 6 [(0, .long a0), (2, .int a2), (3, .int a3), (4, .long x), (6, .int (a6 + 1))] [] ly0 I L R0 0 0) (kk : P (F_X9_quarter_15_1 a0 a2 a3 a6 a4 a7)) : V (zM x_X9_quarter 2 0 0 t) 15 [(0, .long a0), (2, .int a2), (3, .int a3), (4, .long a4), (6, .int a6), (7, .int a7)] [] ly0 I L R0 0 0 :=
  V_fr0 (fun i x => (F_X9_quarter_21_2 a0 a2 a3 a6 i x)) a3 (fun i x => V (zM x_X9_quarter 2 0 0 t) 15 [(0, .long a0), (2, .int a2), (3, .int a3), (4, .long x), (6, .int a6), (7, .int i)] [] ly0 I L R0 0 0) (fun i x => P ((F_X9_quarter_59_1 a0 a2 a3 a6 x))) (c := a7) (s := a4) (fun i x kx kb => V_iload (tat ok_X9_quarter_0 (i := 9) (q := 17) rfl rfl) 5 rfl <|
    V_iload_n (tat ok_X9_quarter_0 (i := 10) (q := 18) rfl rfl) 2 rfl rfl <|
    V_icmp_ge (tat ok_X9_quarter_0 (i := 11) (q := 21) rfl rfl) rfl (fun c0 => V_pick [0, 1, 2, 3, 4] rfl (V_X9_quarter_59_1  hk (kx c0))) (fun c0 => V_X9_quarter_21_2 (P := (fun x => (fun i x => V (zM x_X9_quarter 2 0 0 t) 15 [(0, .long a0), (2, .int a2), (3, .int a3), (4, .long x), (6, .int a6), (7, .int i)] [] ly0 I L R0 0 0) (i + 1) x))  (fun _ e => e) (kb c0))) kk
def F_X9_quarter_12_1 (a0 : Int64) (a2 : Int32) (a3 : Int32) (a6 : Int32) (a4 : Int64) : Int64 :=
  (F_X9_quarter_15_1 a0 a2 a3 a6 a4 0)
theorem V_X9_quarter_12_1  {I : WI} {L : WL} {a0 : Int64} {a2 : Int32} {a3 : Int32} {a6 : Int32} {a4 : Int64} {P : Int64 → Prop} {t : Tg} (hk : ∀ x : Int64, P x → V (zM x_X9_quarter 2 0 0 t) 6 [(0, .long a0), (2, .int a2), (3, .int a3), (4, .long x), (6, .int (a6 + 1))] [] ly0 I L R0 0 0) (kk : P (F_X9_quarter_12_1 a0 a2 a3 a6 a4)) : V (zM x_X9_quarter 2 0 0 t) 12 [(0, .long a0), (2, .int a2), (3, .int a3), (4, .long a4), (6, .int a6)] [] ly0 I L R0 0 0 :=
  V_iconst (tat ok_X9_quarter_0 (i := 7) (q := 13) rfl rfl) ic_0 <|
    V_istore (lv' := [(7, .int 0), (0, .long a0), (2, .int a2), (3, .int a3), (4, .long a4), (6, .int a6)]) (tat ok_X9_quarter_0 (i := 8) (q := 15) rfl rfl) (Nat.le_of_ble_eq_true rfl) rfl <|
    V_pick [1, 2, 3, 4, 5, 0] rfl (V_X9_quarter_15_1 rfl hk (jx (P := P) kk rfl))
def F_X9_quarter_65 (a0 : Int64) (a2 : Int32) (a3 : Int32) (a4 : Int64) : Int64 :=
  a4
theorem V_X9_quarter_65  {I : WI} {L : WL} {a0 : Int64} {a2 : Int32} {a3 : Int32} {a4 : Int64} {P : Int64 → Prop} {t : Tg} (hr : ∀ v, P v → t = (some (.long v), ly0, I, L, R0)) (kk : P (F_X9_quarter_65 a0 a2 a3 a4)) : V (zM x_X9_quarter 2 0 0 t) 65 [(0, .long a0), (2, .int a2), (3, .int a3), (4, .long a4)] [] ly0 I L R0 0 0 :=
  V_lload (tat ok_X9_quarter_0 (i := 34) (q := 67) rfl rfl) 3 rfl <|
    V_lret (tat ok_X9_quarter_0 (i := 35) (q := 68) rfl rfl) rfl (hr a4 (jx (P := P) kk rfl)) ⟨(Nat.le_of_ble_eq_true rfl), (Nat.le_of_ble_eq_true rfl)⟩
def F_X9_quarter_6 (a0 : Int64) (a2 : Int32) (a3 : Int32) (a4 : Int64) (a6 : Int32) : Int64 :=
  (fun q : Int32 × Int64 => (F_X9_quarter_65 a0 a2 a3 (p2 q))) (fr0 (fun i x => (F_X9_quarter_12_1 a0 a2 a3 i x)) a2 (fu a6 a2) a6 a4)
theorem V_X9_quarter_6  {I : WI} {L : WL} {a0 : Int64} {a2 : Int32} {a3 : Int32} {a4 : Int64} {a6 : Int32} {P : Int64 → Prop} {t : Tg} (hb6 : bz a6 = a6) (hr : ∀ v, P v → t = (some (.long v), ly0, I, L, R0)) (kk : P (F_X9_quarter_6 a0 a2 a3 a4 a6)) : V (zM x_X9_quarter 2 0 0 t) 6 [(0, .long a0), (2, .int a2), (3, .int a3), (4, .long a4), (6, .int a6)] [] ly0 I L R0 0 0 :=
  V_fr0 (fun i x => (F_X9_quarter_12_1 a0 a2 a3 i x)) a2 (fun i x => V (zM x_X9_quarter 2 0 0 t) 6 [(0, .long a0), (2, .int a2), (3, .int a3), (4, .long x), (6, .int i)] [] ly0 I L R0 0 0) (fun i x => P ((F_X9_quarter_65 a0 a2 a3 x))) (c := a6) (s := a4) (fun i x kx kb => V_iload (tat ok_X9_quarter_0 (i := 4) (q := 8) rfl rfl) 4 rfl <|
    V_iload_n (tat ok_X9_quarter_0 (i := 5) (q := 9) rfl rfl) 1 rfl rfl <|
    V_icmp_ge (tat ok_X9_quarter_0 (i := 6) (q := 12) rfl rfl) rfl (fun c0 => V_pick [0, 1, 2, 3] rfl (V_X9_quarter_65  hr (kx c0))) (fun c0 => V_X9_quarter_12_1 (P := (fun x => (fun i x => V (zM x_X9_quarter 2 0 0 t) 6 [(0, .long a0), (2, .int a2), (3, .int a3), (4, .long x), (6, .int i)] [] ly0 I L R0 0 0) (i + 1) x))  (fun _ e => e) (kb c0))) kk
def F_X9_quarter (a0 : Int64) (a2 : Int32) (a3 : Int32) : Int64 :=
  (F_X9_quarter_6 a0 a2 a3 0 0)
theorem V_X9_quarter  {I : WI} {L : WL} {a0 : Int64} {a2 : Int32} {a3 : Int32}  {P : Int64 → Prop} {t : Tg} (hr : ∀ v, P v → t = (some (.long v), ly0, I, L, R0)) (kk : P (F_X9_quarter a0 a2 a3)) : V (zM x_X9_quarter 2 0 0 t) 0 [(0, .long a0), (2, .int a2), (3, .int a3)] [] ly0 I L R0 0 0 :=
  V_lconst (v := 0) (tat ok_X9_quarter_0 (i := 0) (q := 1) rfl rfl) rfl <|
    V_lstore (lv' := [(4, .long 0), (0, .long a0), (2, .int a2), (3, .int a3)]) (tat ok_X9_quarter_0 (i := 1) (q := 3) rfl rfl) (Nat.le_of_ble_eq_true rfl) rfl <|
    V_iconst (tat ok_X9_quarter_0 (i := 2) (q := 4) rfl rfl) ic_0 <|
    V_istore (lv' := [(6, .int 0), (4, .long 0), (0, .long a0), (2, .int a2), (3, .int a3)]) (tat ok_X9_quarter_0 (i := 3) (q := 6) rfl rfl) (Nat.le_of_ble_eq_true rfl) rfl <|
    V_pick [2, 3, 4, 1, 0] rfl (V_X9_quarter_6 rfl hr (jx (P := P) kk rfl))
theorem ct_X9_quarter  (I : WI) (L : WL) (a0 : Int64) (a2 : Int32) (a3 : Int32)  : Ct x_X9_quarter 2 [.long a0, .int a2, .int a3] ly0 I L R0 0 0 (some (.long (F_X9_quarter a0 a2 a3)), ly0, I, L, R0) :=
  Ct_of_V mo_X9_quarter.1 (Nat.le_of_ble_eq_true rfl) (V_X9_quarter (P := fun x => x = (F_X9_quarter a0 a2 a3))  (fun _ e => by rw [e]) rfl)
def F_X9_rotated_54_1 (a0 : Int64) (a2 : Int32) (a3 : Int32) (a4 : Int32) (a7 : Int32) (s0 : Int64) : Int64 :=
  s0
theorem V_X9_rotated_54_1  {I : WI} {L : WL} {a0 : Int64} {a2 : Int32} {a3 : Int32} {a4 : Int32} {a7 : Int32} {s0 : Int64} {P : Int64 → Prop} {t : Tg} (hk : ∀ x : Int64, P x → V (zM x_X9_rotated 3 0 0 t) 21 [(0, .long a0), (2, .int a2), (3, .int a3), (4, .int a4), (5, .long x), (7, .int (a7 + 1))] [] ly0 I L R0 0 0) (kk : P (F_X9_rotated_54_1 a0 a2 a3 a4 a7 s0)) : V (zM x_X9_rotated 3 0 0 t) 54 [(0, .long a0), (2, .int a2), (3, .int a3), (4, .int a4), (7, .int a7)] [.long s0] ly0 I L R0 0 0 :=
  V_lstore (lv' := [(5, .long s0), (0, .long a0), (2, .int a2), (3, .int a3), (4, .int a4), (7, .int a7)]) (tat ok_X9_rotated_0 (i := 30) (q := 56) rfl rfl) (Nat.le_of_ble_eq_true rfl) rfl <|
    V_iinc (v := (a7 + 1)) (lv' := [(7, .int (a7 + 1)), (5, .long s0), (0, .long a0), (2, .int a2), (3, .int a3), (4, .int a4)]) (tat ok_X9_rotated_0 (i := 31) (q := 59) rfl rfl) 5 rfl (ia ic_1) (Nat.le_of_ble_eq_true rfl) rfl <|
    V_goto (tat ok_X9_rotated_0 (i := 32) (q := 62) rfl rfl) rfl <|
    V_pick [2, 3, 4, 5, 1, 0] rfl (hk s0 (jx (P := P) kk rfl))
def F_X9_rotated_30_1 (a0 : Int64) (a2 : Int32) (a3 : Int32) (a4 : Int32) (a7 : Int32) (a5 : Int64) : Int64 :=
  (if (a7 - a7 / 2 * 2) = 0 then (F_X9_rotated_54_1 a0 a2 a3 a4 a7 (F_X9_quarter a5 a2 a3)) else (F_X9_rotated_54_1 a0 a2 a3 a4 a7 (F_X9_quarter a5 a3 a2)))
theorem V_X9_rotated_30_1  {I : WI} {L : WL} {a0 : Int64} {a2 : Int32} {a3 : Int32} {a4 : Int32} {a7 : Int32} {a5 : Int64} {P : Int64 → Prop} {t : Tg} (hk : ∀ x : Int64, P x → V (zM x_X9_rotated 3 0 0 t) 21 [(0, .long a0), (2, .int a2), (3, .int a3), (4, .int a4), (5, .long x), (7, .int (a7 + 1))] [] ly0 I L R0 0 0) (kk : P (F_X9_rotated_30_1 a0 a2 a3 a4 a7 a5)) : V (zM x_X9_rotated 3 0 0 t) 30 [(0, .long a0), (2, .int a2), (3, .int a3), (4, .int a4), (5, .long a5), (7, .int a7)] [] ly0 I L R0 0 0 :=
  V_iload (tat ok_X9_rotated_0 (i := 17) (q := 32) rfl rfl) 5 rfl <|
    V_iconst (tat ok_X9_rotated_0 (i := 18) (q := 33) rfl rfl) ic_2 <|
    V_irem (tat ok_X9_rotated_0 (i := 19) (q := 34) rfl rfl) (by decide) <|
    V_if_ne (tat ok_X9_rotated_0 (i := 20) (q := 37) rfl rfl) rfl (fun c2 => V_lload (tat ok_X9_rotated_0 (i := 26) (q := 49) rfl rfl) 4 rfl <|
    V_iload_n (tat ok_X9_rotated_0 (i := 27) (q := 50) rfl rfl) 2 rfl rfl <|
    V_iload_n (tat ok_X9_rotated_0 (i := 28) (q := 51) rfl rfl) 1 rfl rfl <|
    V_cs3 (ct_X9_quarter I L a5 a3 a2 ) mo_X9_quarter (tat ok_X9_rotated_0 (i := 29) (q := 54) rfl rfl) ml_X9_307 ⟨(Nat.le_of_ble_eq_true rfl), (Nat.le_of_ble_eq_true rfl)⟩ ⟨(Nat.le_of_ble_eq_true rfl), (Nat.le_of_ble_eq_true rfl)⟩ (Nat.le_of_ble_eq_true rfl) <|
    V_pick [0, 1, 2, 3, 5] rfl (V_X9_rotated_54_1  hk (jx (P := P) kk (if_neg c2)))) (fun c2 => V_lload (tat ok_X9_rotated_0 (i := 21) (q := 39) rfl rfl) 4 rfl <|
    V_iload_n (tat ok_X9_rotated_0 (i := 22) (q := 40) rfl rfl) 1 rfl rfl <|
    V_iload_n (tat ok_X9_rotated_0 (i := 23) (q := 41) rfl rfl) 2 rfl rfl <|
    V_cs3 (ct_X9_quarter I L a5 a2 a3 ) mo_X9_quarter (tat ok_X9_rotated_0 (i := 24) (q := 44) rfl rfl) ml_X9_307 ⟨(Nat.le_of_ble_eq_true rfl), (Nat.le_of_ble_eq_true rfl)⟩ ⟨(Nat.le_of_ble_eq_true rfl), (Nat.le_of_ble_eq_true rfl)⟩ (Nat.le_of_ble_eq_true rfl) <|
    V_goto (tat ok_X9_rotated_0 (i := 25) (q := 47) rfl rfl) rfl <|
    V_pick [0, 1, 2, 3, 5] rfl (V_X9_rotated_54_1  hk (jx (P := P) kk (if_pos c2))))
def F_X9_rotated_62 (a0 : Int64) (a2 : Int32) (a3 : Int32) (a4 : Int32) (a5 : Int64) : Int64 :=
  a5
theorem V_X9_rotated_62  {I : WI} {L : WL} {a0 : Int64} {a2 : Int32} {a3 : Int32} {a4 : Int32} {a5 : Int64} {P : Int64 → Prop} {t : Tg} (hr : ∀ v, P v → t = (some (.long v), ly0, I, L, R0)) (kk : P (F_X9_rotated_62 a0 a2 a3 a4 a5)) : V (zM x_X9_rotated 3 0 0 t) 62 [(0, .long a0), (2, .int a2), (3, .int a3), (4, .int a4), (5, .long a5)] [] ly0 I L R0 0 0 :=
  V_lload (tat ok_X9_rotated_0 (i := 33) (q := 64) rfl rfl) 4 rfl <|
    V_lret (tat ok_X9_rotated_0 (i := 34) (q := 65) rfl rfl) rfl (hr a5 (jx (P := P) kk rfl)) ⟨(Nat.le_of_ble_eq_true rfl), (Nat.le_of_ble_eq_true rfl)⟩
def F_X9_rotated_21 (a0 : Int64) (a2 : Int32) (a3 : Int32) (a4 : Int32) (a5 : Int64) (a7 : Int32) : Int64 :=
  (fun q : Int32 × Int64 => (F_X9_rotated_62 a0 a2 a3 a4 (p2 q))) (fr0 (fun i x => (F_X9_rotated_30_1 a0 a2 a3 a4 i x)) (a4 - a4 / 4 * 4) (fu a7 (a4 - a4 / 4 * 4)) a7 a5)
theorem V_X9_rotated_21  {I : WI} {L : WL} {a0 : Int64} {a2 : Int32} {a3 : Int32} {a4 : Int32} {a5 : Int64} {a7 : Int32} {P : Int64 → Prop} {t : Tg} (hb7 : bz a7 = a7) (hr : ∀ v, P v → t = (some (.long v), ly0, I, L, R0)) (kk : P (F_X9_rotated_21 a0 a2 a3 a4 a5 a7)) : V (zM x_X9_rotated 3 0 0 t) 21 [(0, .long a0), (2, .int a2), (3, .int a3), (4, .int a4), (5, .long a5), (7, .int a7)] [] ly0 I L R0 0 0 :=
  V_fr0 (fun i x => (F_X9_rotated_30_1 a0 a2 a3 a4 i x)) (a4 - a4 / 4 * 4) (fun i x => V (zM x_X9_rotated 3 0 0 t) 21 [(0, .long a0), (2, .int a2), (3, .int a3), (4, .int a4), (5, .long x), (7, .int i)] [] ly0 I L R0 0 0) (fun i x => P ((F_X9_rotated_62 a0 a2 a3 a4 x))) (c := a7) (s := a5) (fun i x kx kb => V_iload (tat ok_X9_rotated_0 (i := 12) (q := 23) rfl rfl) 5 rfl <|
    V_iload (tat ok_X9_rotated_0 (i := 13) (q := 25) rfl rfl) 3 rfl <|
    V_iconst (tat ok_X9_rotated_0 (i := 14) (q := 26) rfl rfl) ic_4 <|
    V_irem (tat ok_X9_rotated_0 (i := 15) (q := 27) rfl rfl) (by decide) <|
    V_icmp_ge (tat ok_X9_rotated_0 (i := 16) (q := 30) rfl rfl) rfl (fun c0 => V_pick [0, 1, 2, 3, 4] rfl (V_X9_rotated_62  hr (kx c0))) (fun c0 => V_X9_rotated_30_1 (P := (fun x => (fun i x => V (zM x_X9_rotated 3 0 0 t) 21 [(0, .long a0), (2, .int a2), (3, .int a3), (4, .int a4), (5, .long x), (7, .int i)] [] ly0 I L R0 0 0) (i + 1) x))  (fun _ e => e) (kb c0))) kk
def F_X9_rotated_16 (a0 : Int64) (a2 : Int32) (a3 : Int32) (a4 : Int32) (s0 : Int64) : Int64 :=
  (F_X9_rotated_21 a0 a2 a3 a4 s0 0)
theorem V_X9_rotated_16  {I : WI} {L : WL} {a0 : Int64} {a2 : Int32} {a3 : Int32} {a4 : Int32} {s0 : Int64} {P : Int64 → Prop} {t : Tg} (hr : ∀ v, P v → t = (some (.long v), ly0, I, L, R0)) (kk : P (F_X9_rotated_16 a0 a2 a3 a4 s0)) : V (zM x_X9_rotated 3 0 0 t) 16 [(0, .long a0), (2, .int a2), (3, .int a3), (4, .int a4)] [.long s0] ly0 I L R0 0 0 :=
  V_lstore (lv' := [(5, .long s0), (0, .long a0), (2, .int a2), (3, .int a3), (4, .int a4)]) (tat ok_X9_rotated_0 (i := 9) (q := 18) rfl rfl) (Nat.le_of_ble_eq_true rfl) rfl <|
    V_iconst (tat ok_X9_rotated_0 (i := 10) (q := 19) rfl rfl) ic_0 <|
    V_istore (lv' := [(7, .int 0), (5, .long s0), (0, .long a0), (2, .int a2), (3, .int a3), (4, .int a4)]) (tat ok_X9_rotated_0 (i := 11) (q := 21) rfl rfl) (Nat.le_of_ble_eq_true rfl) rfl <|
    V_pick [2, 3, 4, 5, 1, 0] rfl (V_X9_rotated_21 rfl hr (jx (P := P) kk rfl))
def F_X9_rotated (a0 : Int64) (a2 : Int32) (a3 : Int32) (a4 : Int32) : Int64 :=
  (if a4 ≤ 3 then (F_X9_rotated_16 a0 a2 a3 a4 a0) else (F_X9_rotated_16 a0 a2 a3 a4 (F_X9_mirrored a0 a2 a3)))
theorem V_X9_rotated  {I : WI} {L : WL} {a0 : Int64} {a2 : Int32} {a3 : Int32} {a4 : Int32}  {P : Int64 → Prop} {t : Tg} (hr : ∀ v, P v → t = (some (.long v), ly0, I, L, R0)) (kk : P (F_X9_rotated a0 a2 a3 a4)) : V (zM x_X9_rotated 3 0 0 t) 0 [(0, .long a0), (2, .int a2), (3, .int a3), (4, .int a4)] [] ly0 I L R0 0 0 :=
  V_iload (tat ok_X9_rotated_0 (i := 0) (q := 2) rfl rfl) 3 rfl <|
    V_iconst (tat ok_X9_rotated_0 (i := 1) (q := 3) rfl rfl) ic_3 <|
    V_icmp_le (tat ok_X9_rotated_0 (i := 2) (q := 6) rfl rfl) rfl (fun c1 => V_lload_n (tat ok_X9_rotated_0 (i := 8) (q := 16) rfl rfl) 0 rfl rfl <|
    V_X9_rotated_16  hr (jx (P := P) kk (if_pos c1))) (fun c1 => V_lload_n (tat ok_X9_rotated_0 (i := 3) (q := 7) rfl rfl) 0 rfl rfl <|
    V_iload_n (tat ok_X9_rotated_0 (i := 4) (q := 8) rfl rfl) 1 rfl rfl <|
    V_iload_n (tat ok_X9_rotated_0 (i := 5) (q := 9) rfl rfl) 2 rfl rfl <|
    V_cs3 (ct_X9_mirrored I L a0 a2 a3 ) mo_X9_mirrored (tat ok_X9_rotated_0 (i := 6) (q := 12) rfl rfl) ml_X9_304 ⟨(Nat.le_of_ble_eq_true rfl), (Nat.le_of_ble_eq_true rfl)⟩ ⟨(Nat.le_of_ble_eq_true rfl), (Nat.le_of_ble_eq_true rfl)⟩ (Nat.le_of_ble_eq_true rfl) <|
    V_goto (tat ok_X9_rotated_0 (i := 7) (q := 15) rfl rfl) rfl <|
    V_X9_rotated_16  hr (jx (P := P) kk (if_neg c1)))
theorem ct_X9_rotated  (I : WI) (L : WL) (a0 : Int64) (a2 : Int32) (a3 : Int32) (a4 : Int32)  : Ct x_X9_rotated 3 [.long a0, .int a2, .int a3, .int a4] ly0 I L R0 0 0 (some (.long (F_X9_rotated a0 a2 a3 a4)), ly0, I, L, R0) :=
  Ct_of_V mo_X9_rotated.1 (Nat.le_of_ble_eq_true rfl) (V_X9_rotated (P := fun x => x = (F_X9_rotated a0 a2 a3 a4))  (fun _ e => by rw [e]) rfl)
def F_X9_endsPattern (I : WI) : WI :=
  (u2 (u2 I 33 4 0) 33 5 0)
theorem V_X9_endsPattern  {I : WI} {L : WL}   {P : WI → Prop} {t : Tg} (hr : ∀ v, P v → t = (none, ly0, v, L, R0)) (kk : P (F_X9_endsPattern I)) : V (zM x_X9_endsPattern 1 0 0 t) 0 [(0, .ref 33)] [] ly0 I L R0 0 0 :=
  V_aload_n (tat ok_X9_endsPattern_0 (i := 0) (q := 1) rfl rfl) 0 rfl rfl <|
    V_iconst (tat ok_X9_endsPattern_0 (i := 1) (q := 2) rfl rfl) ic_0 <|
    V_putZ (tat ok_X9_endsPattern_0 (i := 2) (q := 5) rfl rfl) fk_X9_86 rfl rfl rfl <|
    V_aload_n (tat ok_X9_endsPattern_0 (i := 3) (q := 6) rfl rfl) 0 rfl rfl <|
    V_iconst (tat ok_X9_endsPattern_0 (i := 4) (q := 7) rfl rfl) ic_0 <|
    V_putI (tat ok_X9_endsPattern_0 (i := 5) (q := 10) rfl rfl) fk_X9_89 rfl rfl <|
    V_vret (tat ok_X9_endsPattern_0 (i := 6) (q := 11) rfl rfl) rfl (hr (u2 (u2 I 33 4 0) 33 5 0) (jx (P := P) kk rfl)) ⟨(Nat.le_of_ble_eq_true rfl), (Nat.le_of_ble_eq_true rfl)⟩
theorem ct_X9_endsPattern  (I : WI) (L : WL)  : Ct x_X9_endsPattern 1 [.ref 33] ly0 I L R0 0 0 (none, ly0, (F_X9_endsPattern I), L, R0) :=
  Ct_of_V mo_X9_endsPattern.1 (Nat.le_of_ble_eq_true rfl) (V_X9_endsPattern (P := fun x => x = (F_X9_endsPattern I))  (fun _ e => by rw [e]) rfl)
def F_X9_rotate_97 (I : WI) (L : WL) (a1 : Int32) (s0 : Int32) : (Int32 × WI × WL) :=
  (((u2 (u2 I 33 1 s0) 33 5 0) 33 0), (u2 (u2 I 33 1 s0) 33 5 0), L)
theorem V_X9_rotate_97  {I : WI} {L : WL} {a1 : Int32} {s0 : Int32} {P : (Int32 × WI × WL) → Prop} {t : Tg} (hr : ∀ v, P v → t = (some (.int (p1 v)), ly0, (p1 (p2 v)), (p2 (p2 v)), R0)) (kk : P (F_X9_rotate_97 I L a1 s0)) : V (zM x_X9_rotate 4 0 0 t) 97 [(0, .ref 33), (1, .int a1)] [.int s0, .ref 33] ly0 I L R0 0 0 :=
  V_putI (tat ok_X9_rotate_1 (i := 13) (q := 100) rfl rfl) fk_X9_77 rfl rfl <|
    V_aload_n (tat ok_X9_rotate_1 (i := 14) (q := 101) rfl rfl) 0 rfl rfl <|
    V_iconst (tat ok_X9_rotate_1 (i := 15) (q := 102) rfl rfl) ic_0 <|
    V_putI (tat ok_X9_rotate_1 (i := 16) (q := 105) rfl rfl) fk_X9_89 rfl rfl <|
    V_aload_n (tat ok_X9_rotate_1 (i := 17) (q := 106) rfl rfl) 0 rfl rfl <|
    V_getI (tat ok_X9_rotate_1 (i := 18) (q := 109) rfl rfl) fk_X9_74 rfl <|
    V_iret (tat ok_X9_rotate_1 (i := 19) (q := 110) rfl rfl) _ rfl (nar_int _) (hr (((u2 (u2 I 33 1 s0) 33 5 0) 33 0), (u2 (u2 I 33 1 s0) 33 5 0), L) (jx (P := P) kk rfl)) ⟨(Nat.le_of_ble_eq_true rfl), (Nat.le_of_ble_eq_true rfl)⟩
def F_X9_rotate_78 (I : WI) (L : WL) (a1 : Int32) (a2 : Int32) (s0 : Int32) : (Int32 × WI × WL) :=
  (if (a1 - a1 / 2 * 2) = 1 then (F_X9_rotate_97 (u2 I 33 0 s0) L a1 a2) else (F_X9_rotate_97 (u2 I 33 0 s0) L a1 ((u2 I 33 0 s0) 33 1)))
theorem V_X9_rotate_78  {I : WI} {L : WL} {a1 : Int32} {a2 : Int32} {s0 : Int32} {P : (Int32 × WI × WL) → Prop} {t : Tg} (hr : ∀ v, P v → t = (some (.int (p1 v)), ly0, (p1 (p2 v)), (p2 (p2 v)), R0)) (kk : P (F_X9_rotate_78 I L a1 a2 s0)) : V (zM x_X9_rotate 4 0 0 t) 78 [(0, .ref 33), (1, .int a1), (2, .int a2)] [.int s0, .ref 33] ly0 I L R0 0 0 :=
  V_putI (tat ok_X9_rotate_1 (i := 2) (q := 81) rfl rfl) fk_X9_74 rfl rfl <|
    V_aload_n (tat ok_X9_rotate_1 (i := 3) (q := 82) rfl rfl) 0 rfl rfl <|
    V_iload_n (tat ok_X9_rotate_1 (i := 4) (q := 83) rfl rfl) 1 rfl rfl <|
    V_iconst (tat ok_X9_rotate_1 (i := 5) (q := 84) rfl rfl) ic_2 <|
    V_irem (tat ok_X9_rotate_1 (i := 6) (q := 85) rfl rfl) (by decide) <|
    V_iconst (tat ok_X9_rotate_1 (i := 7) (q := 86) rfl rfl) ic_1 <|
    V_icmp_ne (tat ok_X9_rotate_1 (i := 8) (q := 89) rfl rfl) rfl (fun c3 => V_aload_n (tat ok_X9_rotate_1 (i := 11) (q := 94) rfl rfl) 0 rfl rfl <|
    V_getI (tat ok_X9_rotate_1 (i := 12) (q := 97) rfl rfl) fk_X9_77 rfl <|
    V_pick [0, 1] rfl (V_X9_rotate_97  hr (jx (P := P) kk (if_neg c3)))) (fun c3 => V_iload_n (tat ok_X9_rotate_1 (i := 9) (q := 90) rfl rfl) 2 rfl rfl <|
    V_goto (tat ok_X9_rotate_1 (i := 10) (q := 93) rfl rfl) rfl <|
    V_pick [0, 1] rfl (V_X9_rotate_97  hr (jx (P := P) kk (if_pos c3))))
def F_X9_rotate (I : WI) (L : WL) (a1 : Int32) : (Int32 × WI × WL) :=
  (if (F_X9_in (Int32.toInt64 a1) 0 7) = 0 then ((-1), I, L) else (if (a1 - a1 / 2 * 2) = 1 then (F_X9_rotate_78 I (u2 (u2 L 33 2 (F_X9_rotated (L 33 2) (I 33 0) (I 33 1) a1)) 33 3 (F_X9_rotated ((u2 L 33 2 (F_X9_rotated (L 33 2) (I 33 0) (I 33 1) a1)) 33 3) (I 33 0) (I 33 1) a1)) a1 (I 33 0) (I 33 1)) else (F_X9_rotate_78 I (u2 (u2 L 33 2 (F_X9_rotated (L 33 2) (I 33 0) (I 33 1) a1)) 33 3 (F_X9_rotated ((u2 L 33 2 (F_X9_rotated (L 33 2) (I 33 0) (I 33 1) a1)) 33 3) (I 33 0) (I 33 1) a1)) a1 (I 33 0) (I 33 0))))
theorem V_X9_rotate  {I : WI} {L : WL} {a1 : Int32}  {P : (Int32 × WI × WL) → Prop} {t : Tg} (hr : ∀ v, P v → t = (some (.int (p1 v)), ly0, (p1 (p2 v)), (p2 (p2 v)), R0)) (kk : P (F_X9_rotate I L a1)) : V (zM x_X9_rotate 4 0 0 t) 0 [(0, .ref 33), (1, .int a1)] [] ly0 I L R0 0 0 :=
  V_iload_n (tat ok_X9_rotate_0 (i := 0) (q := 1) rfl rfl) 1 rfl rfl <|
    V_i2l (tat ok_X9_rotate_0 (i := 1) (q := 2) rfl rfl) <|
    V_lconst (v := 0) (tat ok_X9_rotate_0 (i := 2) (q := 3) rfl rfl) rfl <|
    V_ldc2 (tat ok_X9_rotate_0 (i := 3) (q := 6) rfl rfl) (gw_in kl_X9_168 rfl) <|
    V_cs3 (ct_X9_in I L (Int32.toInt64 a1) 0 7 ) mo_X9_in (tat ok_X9_rotate_0 (i := 4) (q := 9) rfl rfl) ml_X9_97 ⟨(Nat.le_of_ble_eq_true rfl), (Nat.le_of_ble_eq_true rfl)⟩ ⟨(Nat.le_of_ble_eq_true rfl), (Nat.le_of_ble_eq_true rfl)⟩ (Nat.le_of_ble_eq_true rfl) <|
    V_if_ne (tat ok_X9_rotate_0 (i := 5) (q := 12) rfl rfl) rfl (fun c1 => V_aload_n (tat ok_X9_rotate_0 (i := 8) (q := 15) rfl rfl) 0 rfl rfl <|
    V_aload_n (tat ok_X9_rotate_0 (i := 9) (q := 16) rfl rfl) 0 rfl rfl <|
    V_getL (tat ok_X9_rotate_0 (i := 10) (q := 19) rfl rfl) fk_X9_80 rfl <|
    V_aload_n (tat ok_X9_rotate_0 (i := 11) (q := 20) rfl rfl) 0 rfl rfl <|
    V_getI (tat ok_X9_rotate_0 (i := 12) (q := 23) rfl rfl) fk_X9_74 rfl <|
    V_aload_n (tat ok_X9_rotate_0 (i := 13) (q := 24) rfl rfl) 0 rfl rfl <|
    V_getI (tat ok_X9_rotate_0 (i := 14) (q := 27) rfl rfl) fk_X9_77 rfl <|
    V_iload_n (tat ok_X9_rotate_0 (i := 15) (q := 28) rfl rfl) 1 rfl rfl <|
    V_cs4 (ct_X9_rotated I L (L 33 2) (I 33 0) (I 33 1) a1 ) mo_X9_rotated (tat ok_X9_rotate_0 (i := 16) (q := 31) rfl rfl) ml_X9_310 ⟨(Nat.le_of_ble_eq_true rfl), (Nat.le_of_ble_eq_true rfl)⟩ ⟨(Nat.le_of_ble_eq_true rfl), (Nat.le_of_ble_eq_true rfl)⟩ (Nat.le_of_ble_eq_true rfl) <|
    V_putL (tat ok_X9_rotate_0 (i := 17) (q := 34) rfl rfl) fk_X9_80 rfl rfl <|
    V_aload_n (tat ok_X9_rotate_0 (i := 18) (q := 35) rfl rfl) 0 rfl rfl <|
    V_aload_n (tat ok_X9_rotate_0 (i := 19) (q := 36) rfl rfl) 0 rfl rfl <|
    V_getL (tat ok_X9_rotate_0 (i := 20) (q := 39) rfl rfl) fk_X9_83 rfl <|
    V_aload_n (tat ok_X9_rotate_0 (i := 21) (q := 40) rfl rfl) 0 rfl rfl <|
    V_getI (tat ok_X9_rotate_0 (i := 22) (q := 43) rfl rfl) fk_X9_74 rfl <|
    V_aload_n (tat ok_X9_rotate_0 (i := 23) (q := 44) rfl rfl) 0 rfl rfl <|
    V_getI (tat ok_X9_rotate_0 (i := 24) (q := 47) rfl rfl) fk_X9_77 rfl <|
    V_iload_n (tat ok_X9_rotate_0 (i := 25) (q := 48) rfl rfl) 1 rfl rfl <|
    V_cs4 (ct_X9_rotated I (u2 L 33 2 (F_X9_rotated (L 33 2) (I 33 0) (I 33 1) a1)) ((u2 L 33 2 (F_X9_rotated (L 33 2) (I 33 0) (I 33 1) a1)) 33 3) (I 33 0) (I 33 1) a1 ) mo_X9_rotated (tat ok_X9_rotate_0 (i := 26) (q := 51) rfl rfl) ml_X9_310 ⟨(Nat.le_of_ble_eq_true rfl), (Nat.le_of_ble_eq_true rfl)⟩ ⟨(Nat.le_of_ble_eq_true rfl), (Nat.le_of_ble_eq_true rfl)⟩ (Nat.le_of_ble_eq_true rfl) <|
    V_putL (tat ok_X9_rotate_0 (i := 27) (q := 54) rfl rfl) fk_X9_83 rfl rfl <|
    V_aload_n (tat ok_X9_rotate_0 (i := 28) (q := 55) rfl rfl) 0 rfl rfl <|
    V_getI (tat ok_X9_rotate_0 (i := 29) (q := 58) rfl rfl) fk_X9_74 rfl <|
    V_istore_n (lv' := [(2, .int (I 33 0)), (0, .ref 33), (1, .int a1)]) (tat ok_X9_rotate_0 (i := 30) (q := 59) rfl rfl) rfl (Nat.le_of_ble_eq_true rfl) rfl <|
    V_aload_n (tat ok_X9_rotate_0 (i := 31) (q := 60) rfl rfl) 1 rfl rfl <|
    V_iload_n (tat ok_X9_rotate_0 (i := 32) (q := 61) rfl rfl) 2 rfl rfl <|
    V_iconst (tat ok_X9_rotate_0 (i := 33) (q := 62) rfl rfl) ic_2 <|
    V_irem (tat ok_X9_rotate_0 (i := 34) (q := 63) rfl rfl) (by decide) <|
    V_iconst (tat ok_X9_rotate_0 (i := 35) (q := 64) rfl rfl) ic_1 <|
    V_icmp_ne (tat ok_X9_rotate_0 (i := 36) (q := 67) rfl rfl) rfl (fun c2 => V_aload_n (tat ok_X9_rotate_1 (i := 0) (q := 75) rfl rfl) 1 rfl rfl <|
    V_getI (tat ok_X9_rotate_1 (i := 1) (q := 78) rfl rfl) fk_X9_74 rfl <|
    V_pick [1, 2, 0] rfl (V_X9_rotate_78  hr (jx (P := P) kk (Eq.trans (if_neg c1) (if_neg c2))))) (fun c2 => V_aload_n (tat ok_X9_rotate_0 (i := 37) (q := 68) rfl rfl) 1 rfl rfl <|
    V_getI (tat ok_X9_rotate_0 (i := 38) (q := 71) rfl rfl) fk_X9_77 rfl <|
    V_goto (tat ok_X9_rotate_0 (i := 39) (q := 74) rfl rfl) rfl <|
    V_pick [1, 2, 0] rfl (V_X9_rotate_78  hr (jx (P := P) kk (Eq.trans (if_neg c1) (if_pos c2)))))) (fun c1 => V_iconst (tat ok_X9_rotate_0 (i := 6) (q := 13) rfl rfl) ic_m1 <|
    V_iret (tat ok_X9_rotate_0 (i := 7) (q := 14) rfl rfl) _ rfl (nar_int _) (hr ((-1), I, L) (jx (P := P) kk (if_pos c1))) ⟨(Nat.le_of_ble_eq_true rfl), (Nat.le_of_ble_eq_true rfl)⟩)
theorem ct_X9_rotate  (I : WI) (L : WL) (a1 : Int32)  : Ct x_X9_rotate 4 [.ref 33, .int a1] ly0 I L R0 0 0 (some (.int (p1 (F_X9_rotate I L a1))), ly0, (p1 (p2 (F_X9_rotate I L a1))), (p2 (p2 (F_X9_rotate I L a1))), R0) :=
  Ct_of_V mo_X9_rotate.1 (Nat.le_of_ble_eq_true rfl) (V_X9_rotate (P := fun x => x = (F_X9_rotate I L a1))  (fun _ e => by rw [e]) rfl)
def F_X9_cut_65 (I : WI) (L : WL) (a1 : Int32) (a2 : Int32) (a3 : Int32) (a4 : Int32) : (Int32 × WI × WL) :=
  ((-1), I, L)
theorem V_X9_cut_65  {I : WI} {L : WL} {a1 : Int32} {a2 : Int32} {a3 : Int32} {a4 : Int32}  {P : (Int32 × WI × WL) → Prop} {t : Tg} (hr : ∀ v, P v → t = (some (.int (p1 v)), ly0, (p1 (p2 v)), (p2 (p2 v)), R0)) (kk : P (F_X9_cut_65 I L a1 a2 a3 a4)) : V (zM x_X9_cut 2 0 0 t) 65 [(0, .ref 33), (1, .int a1), (2, .int a2), (3, .int a3), (4, .int a4)] [] ly0 I L R0 0 0 :=
  V_iconst (tat ok_X9_cut_1 (i := 0) (q := 66) rfl rfl) ic_m1 <|
    V_iret (tat ok_X9_cut_1 (i := 1) (q := 67) rfl rfl) _ rfl (nar_int _) (hr ((-1), I, L) (jx (P := P) kk rfl)) ⟨(Nat.le_of_ble_eq_true rfl), (Nat.le_of_ble_eq_true rfl)⟩
def F_X9_cut_121_2 (I : WI) (L : WL) (a1 : Int32) (a2 : Int32) (a3 : Int32) (a4 : Int32) (a7 : Int32) (a8 : Int32) (s0 : Int64) (s1 : Int64) : Int64 :=
  (s1 ||| s0)
theorem V_X9_cut_121_2  {I : WI} {L : WL} {a1 : Int32} {a2 : Int32} {a3 : Int32} {a4 : Int32} {a7 : Int32} {a8 : Int32} {s0 : Int64} {s1 : Int64} {P : Int64 → Prop} {t : Tg} (hk : ∀ x : Int64, P x → V (zM x_X9_cut 2 0 0 t) 82 [(0, .ref 33), (1, .int a1), (2, .int a2), (3, .int a3), (4, .int a4), (5, .long x), (7, .int a7), (8, .int (a8 + 1))] [] ly0 I L R0 0 0) (kk : P (F_X9_cut_121_2 I L a1 a2 a3 a4 a7 a8 s0 s1)) : V (zM x_X9_cut 2 0 0 t) 121 [(0, .ref 33), (1, .int a1), (2, .int a2), (3, .int a3), (4, .int a4), (7, .int a7), (8, .int a8)] [.long s0, .long s1] ly0 I L R0 0 0 :=
  V_lor (tat ok_X9_cut_1 (i := 31) (q := 122) rfl rfl) <|
    V_lstore (lv' := [(5, .long (s1 ||| s0)), (0, .ref 33), (1, .int a1), (2, .int a2), (3, .int a3), (4, .int a4), (7, .int a7), (8, .int a8)]) (tat ok_X9_cut_1 (i := 32) (q := 124) rfl rfl) (Nat.le_of_ble_eq_true rfl) rfl <|
    V_iinc (v := (a8 + 1)) (lv' := [(8, .int (a8 + 1)), (5, .long (s1 ||| s0)), (0, .ref 33), (1, .int a1), (2, .int a2), (3, .int a3), (4, .int a4), (7, .int a7)]) (tat ok_X9_cut_1 (i := 33) (q := 127) rfl rfl) 7 rfl (ia ic_1) (Nat.le_of_ble_eq_true rfl) rfl <|
    V_goto (tat ok_X9_cut_1 (i := 34) (q := 130) rfl rfl) rfl <|
    V_pick [2, 3, 4, 5, 6, 1, 7, 0] rfl (hk (s1 ||| s0) (jx (P := P) kk rfl))
def F_X9_cut_89_2 (I : WI) (L : WL) (a1 : Int32) (a2 : Int32) (a3 : Int32) (a4 : Int32) (a7 : Int32) (a8 : Int32) (a5 : Int64) : Int64 :=
  (if (F_X9_isDark (L 33 2) (a1 + a7) (a3 + a8)) = 1 then (F_X9_cut_121_2 I L a1 a2 a3 a4 a7 a8 (F_X9_bitOf a7 a8) a5) else (F_X9_cut_121_2 I L a1 a2 a3 a4 a7 a8 0 a5))
theorem V_X9_cut_89_2  {I : WI} {L : WL} {a1 : Int32} {a2 : Int32} {a3 : Int32} {a4 : Int32} {a7 : Int32} {a8 : Int32} {a5 : Int64} {P : Int64 → Prop} {t : Tg} (hk : ∀ x : Int64, P x → V (zM x_X9_cut 2 0 0 t) 82 [(0, .ref 33), (1, .int a1), (2, .int a2), (3, .int a3), (4, .int a4), (5, .long x), (7, .int a7), (8, .int (a8 + 1))] [] ly0 I L R0 0 0) (kk : P (F_X9_cut_89_2 I L a1 a2 a3 a4 a7 a8 a5)) : V (zM x_X9_cut 2 0 0 t) 89 [(0, .ref 33), (1, .int a1), (2, .int a2), (3, .int a3), (4, .int a4), (5, .long a5), (7, .int a7), (8, .int a8)] [] ly0 I L R0 0 0 :=
  V_lload (tat ok_X9_cut_1 (i := 14) (q := 91) rfl rfl) 5 rfl <|
    V_aload_n (tat ok_X9_cut_1 (i := 15) (q := 92) rfl rfl) 0 rfl rfl <|
    V_getL (tat ok_X9_cut_1 (i := 16) (q := 95) rfl rfl) fk_X9_80 rfl <|
    V_iload_n (tat ok_X9_cut_1 (i := 17) (q := 96) rfl rfl) 1 rfl rfl <|
    V_iload (tat ok_X9_cut_1 (i := 18) (q := 98) rfl rfl) 6 rfl <|
    V_iadd (tat ok_X9_cut_1 (i := 19) (q := 99) rfl rfl) <|
    V_iload_n (tat ok_X9_cut_1 (i := 20) (q := 100) rfl rfl) 3 rfl rfl <|
    V_iload (tat ok_X9_cut_1 (i := 21) (q := 102) rfl rfl) 7 rfl <|
    V_iadd (tat ok_X9_cut_1 (i := 22) (q := 103) rfl rfl) <|
    V_cs3 (ct_X9_isDark I L (L 33 2) (a1 + a7) (a3 + a8) ) mo_X9_isDark (tat ok_X9_cut_1 (i := 23) (q := 106) rfl rfl) ml_X9_210 ⟨(Nat.le_of_ble_eq_true rfl), (Nat.le_of_ble_eq_true rfl)⟩ ⟨(Nat.le_of_ble_eq_true rfl), (Nat.le_of_ble_eq_true rfl)⟩ (Nat.le_of_ble_eq_true rfl) <|
    V_iconst (tat ok_X9_cut_1 (i := 24) (q := 107) rfl rfl) ic_1 <|
    V_icmp_ne (tat ok_X9_cut_1 (i := 25) (q := 110) rfl rfl) rfl (fun c5 => V_lconst (v := 0) (tat ok_X9_cut_1 (i := 30) (q := 121) rfl rfl) rfl <|
    V_pick [0, 1, 2, 3, 4, 6, 7] rfl (V_X9_cut_121_2  hk (jx (P := P) kk (if_neg c5)))) (fun c5 => V_iload (tat ok_X9_cut_1 (i := 26) (q := 112) rfl rfl) 6 rfl <|
    V_iload (tat ok_X9_cut_1 (i := 27) (q := 114) rfl rfl) 7 rfl <|
    V_cs2 (ct_X9_bitOf I L a7 a8 ) mo_X9_bitOf (tat ok_X9_cut_1 (i := 28) (q := 117) rfl rfl) ml_X9_155 ⟨(Nat.le_of_ble_eq_true rfl), (Nat.le_of_ble_eq_true rfl)⟩ ⟨(Nat.le_of_ble_eq_true rfl), (Nat.le_of_ble_eq_true rfl)⟩ (Nat.le_of_ble_eq_true rfl) <|
    V_goto (tat ok_X9_cut_1 (i := 29) (q := 120) rfl rfl) rfl <|
    V_pick [0, 1, 2, 3, 4, 6, 7] rfl (V_X9_cut_121_2  hk (jx (P := P) kk (if_pos c5))))
def F_X9_cut_130_1 (I : WI) (L : WL) (a1 : Int32) (a2 : Int32) (a3 : Int32) (a4 : Int32) (a7 : Int32) (a5 : Int64) : Int64 :=
  a5
theorem V_X9_cut_130_1  {I : WI} {L : WL} {a1 : Int32} {a2 : Int32} {a3 : Int32} {a4 : Int32} {a7 : Int32} {a5 : Int64} {P : Int64 → Prop} {t : Tg} (hk : ∀ x : Int64, P x → V (zM x_X9_cut 2 0 0 t) 73 [(0, .ref 33), (1, .int a1), (2, .int a2), (3, .int a3), (4, .int a4), (5, .long x), (7, .int (a7 + 1))] [] ly0 I L R0 0 0) (kk : P (F_X9_cut_130_1 I L a1 a2 a3 a4 a7 a5)) : V (zM x_X9_cut 2 0 0 t) 130 [(0, .ref 33), (1, .int a1), (2, .int a2), (3, .int a3), (4, .int a4), (5, .long a5), (7, .int a7)] [] ly0 I L R0 0 0 :=
  V_iinc (v := (a7 + 1)) (lv' := [(7, .int (a7 + 1)), (0, .ref 33), (1, .int a1), (2, .int a2), (3, .int a3), (4, .int a4), (5, .long a5)]) (tat ok_X9_cut_1 (i := 35) (q := 133) rfl rfl) 6 rfl (ia ic_1) (Nat.le_of_ble_eq_true rfl) rfl <|
    V_goto (tat ok_X9_cut_1 (i := 36) (q := 136) rfl rfl) rfl <|
    V_pick [1, 2, 3, 4, 5, 6, 0] rfl (hk a5 (jx (P := P) kk rfl))
def F_X9_cut_82_1 (I : WI) (L : WL) (a1 : Int32) (a2 : Int32) (a3 : Int32) (a4 : Int32) (a7 : Int32) (a5 : Int64) (a8 : Int32) : Int64 :=
  (fun q : Int32 × Int64 => (F_X9_cut_130_1 I L a1 a2 a3 a4 a7 (p2 q))) (fr0 (fun i x => (F_X9_cut_89_2 I L a1 a2 a3 a4 a7 i x)) a4 (fu a8 a4) a8 a5)
theorem V_X9_cut_82_1  {I : WI} {L : WL} {a1 : Int32} {a2 : Int32} {a3 : Int32} {a4 : Int32} {a7 : Int32} {a5 : Int64} {a8 : Int32} {P : Int64 → Prop} {t : Tg} (hb8 : bz a8 = a8) (hk : ∀ x : Int64, P x → V (zM x_X9_cut 2 0 0 t) 73 [(0, .ref 33), (1, .int a1), (2, .int a2), (3, .int a3), (4, .int a4), (5, .long x), (7, .int (a7 + 1))] [] ly0 I L R0 0 0) (kk : P (F_X9_cut_82_1 I L a1 a2 a3 a4 a7 a5 a8)) : V (zM x_X9_cut 2 0 0 t) 82 [(0, .ref 33), (1, .int a1), (2, .int a2), (3, .int a3), (4, .int a4), (5, .long a5), (7, .int a7), (8, .int a8)] [] ly0 I L R0 0 0 :=
  V_fr0 (fun i x => (F_X9_cut_89_2 I L a1 a2 a3 a4 a7 i x)) a4 (fun i x => V (zM x_X9_cut 2 0 0 t) 82 [(0, .ref 33), (1, .int a1), (2, .int a2), (3, .int a3), (4, .int a4), (5, .long x), (7, .int a7), (8, .int i)] [] ly0 I L R0 0 0) (fun i x => P ((F_X9_cut_130_1 I L a1 a2 a3 a4 a7 x))) (c := a8) (s := a5) (fun i x kx kb => V_iload (tat ok_X9_cut_1 (i := 11) (q := 84) rfl rfl) 7 rfl <|
    V_iload (tat ok_X9_cut_1 (i := 12) (q := 86) rfl rfl) 4 rfl <|
    V_icmp_ge (tat ok_X9_cut_1 (i := 13) (q := 89) rfl rfl) rfl (fun c0 => V_pick [0, 1, 2, 3, 4, 5, 6] rfl (V_X9_cut_130_1  hk (kx c0))) (fun c0 => V_X9_cut_89_2 (P := (fun x => (fun i x => V (zM x_X9_cut 2 0 0 t) 82 [(0, .ref 33), (1, .int a1), (2, .int a2), (3, .int a3), (4, .int a4), (5, .long x), (7, .int a7), (8, .int i)] [] ly0 I L R0 0 0) (i + 1) x))  (fun _ e => e) (kb c0))) kk
def F_X9_cut_79_1 (I : WI) (L : WL) (a1 : Int32) (a2 : Int32) (a3 : Int32) (a4 : Int32) (a7 : Int32) (a5 : Int64) : Int64 :=
  (F_X9_cut_82_1 I L a1 a2 a3 a4 a7 a5 0)
theorem V_X9_cut_79_1  {I : WI} {L : WL} {a1 : Int32} {a2 : Int32} {a3 : Int32} {a4 : Int32} {a7 : Int32} {a5 : Int64} {P : Int64 → Prop} {t : Tg} (hk : ∀ x : Int64, P x → V (zM x_X9_cut 2 0 0 t) 73 [(0, .ref 33), (1, .int a1), (2, .int a2), (3, .int a3), (4, .int a4), (5, .long x), (7, .int (a7 + 1))] [] ly0 I L R0 0 0) (kk : P (F_X9_cut_79_1 I L a1 a2 a3 a4 a7 a5)) : V (zM x_X9_cut 2 0 0 t) 79 [(0, .ref 33), (1, .int a1), (2, .int a2), (3, .int a3), (4, .int a4), (5, .long a5), (7, .int a7)] [] ly0 I L R0 0 0 :=
  V_iconst (tat ok_X9_cut_1 (i := 9) (q := 80) rfl rfl) ic_0 <|
    V_istore (lv' := [(8, .int 0), (0, .ref 33), (1, .int a1), (2, .int a2), (3, .int a3), (4, .int a4), (5, .long a5), (7, .int a7)]) (tat ok_X9_cut_1 (i := 10) (q := 82) rfl rfl) (Nat.le_of_ble_eq_true rfl) rfl <|
    V_pick [1, 2, 3, 4, 5, 6, 7, 0] rfl (V_X9_cut_82_1 rfl hk (jx (P := P) kk rfl))
def F_X9_cut_136 (I : WI) (L : WL) (a1 : Int32) (a2 : Int32) (a3 : Int32) (a4 : Int32) (a5 : Int64) : (Int32 × WI × WL) :=
  ((F_X9_many ((u2 L 33 2 a5) 33 2)), (F_X9_endsPattern (u2 (u2 I 33 0 a2) 33 1 a4)), (u2 L 33 2 a5))
theorem V_X9_cut_136  {I : WI} {L : WL} {a1 : Int32} {a2 : Int32} {a3 : Int32} {a4 : Int32} {a5 : Int64} {P : (Int32 × WI × WL) → Prop} {t : Tg} (hr : ∀ v, P v → t = (some (.int (p1 v)), ly0, (p1 (p2 v)), (p2 (p2 v)), R0)) (kk : P (F_X9_cut_136 I L a1 a2 a3 a4 a5)) : V (zM x_X9_cut 2 0 0 t) 136 [(0, .ref 33), (1, .int a1), (2, .int a2), (3, .int a3), (4, .int a4), (5, .long a5)] [] ly0 I L R0 0 0 :=
  V_aload_n (tat ok_X9_cut_1 (i := 37) (q := 137) rfl rfl) 0 rfl rfl <|
    V_lload (tat ok_X9_cut_1 (i := 38) (q := 139) rfl rfl) 5 rfl <|
    V_putL (tat ok_X9_cut_1 (i := 39) (q := 142) rfl rfl) fk_X9_80 rfl rfl <|
    V_aload_n (tat ok_X9_cut_2 (i := 0) (q := 143) rfl rfl) 0 rfl rfl <|
    V_iload_n (tat ok_X9_cut_2 (i := 1) (q := 144) rfl rfl) 2 rfl rfl <|
    V_putI (tat ok_X9_cut_2 (i := 2) (q := 147) rfl rfl) fk_X9_74 rfl rfl <|
    V_aload_n (tat ok_X9_cut_2 (i := 3) (q := 148) rfl rfl) 0 rfl rfl <|
    V_iload (tat ok_X9_cut_2 (i := 4) (q := 150) rfl rfl) 4 rfl <|
    V_putI (tat ok_X9_cut_2 (i := 5) (q := 153) rfl rfl) fk_X9_77 rfl rfl <|
    V_aload_n (tat ok_X9_cut_2 (i := 6) (q := 154) rfl rfl) 0 rfl rfl <|
    V_cv0v (ct_X9_endsPattern (u2 (u2 I 33 0 a2) 33 1 a4) (u2 L 33 2 a5)  ) mo_X9_endsPattern (tat ok_X9_cut_2 (i := 7) (q := 157) rfl rfl) ml_X9_314 rfl ⟨by decide, _, rfl, rfl⟩ ⟨(Nat.le_of_ble_eq_true rfl), (Nat.le_of_ble_eq_true rfl)⟩ ⟨(Nat.le_of_ble_eq_true rfl), (Nat.le_of_ble_eq_true rfl)⟩ (Nat.le_of_ble_eq_true rfl) <|
    V_aload_n (tat ok_X9_cut_2 (i := 8) (q := 158) rfl rfl) 0 rfl rfl <|
    V_getL (tat ok_X9_cut_2 (i := 9) (q := 161) rfl rfl) fk_X9_80 rfl <|
    V_cs1 (ct_X9_many (F_X9_endsPattern (u2 (u2 I 33 0 a2) 33 1 a4)) (u2 L 33 2 a5) ((u2 L 33 2 a5) 33 2) ) mo_X9_many (tat ok_X9_cut_2 (i := 10) (q := 164) rfl rfl) ml_X9_220 ⟨(Nat.le_of_ble_eq_true rfl), (Nat.le_of_ble_eq_true rfl)⟩ ⟨(Nat.le_of_ble_eq_true rfl), (Nat.le_of_ble_eq_true rfl)⟩ (Nat.le_of_ble_eq_true rfl) <|
    V_iret (tat ok_X9_cut_2 (i := 11) (q := 165) rfl rfl) _ rfl (nar_int _) (hr ((F_X9_many ((u2 L 33 2 a5) 33 2)), (F_X9_endsPattern (u2 (u2 I 33 0 a2) 33 1 a4)), (u2 L 33 2 a5)) (jx (P := P) kk rfl)) ⟨(Nat.le_of_ble_eq_true rfl), (Nat.le_of_ble_eq_true rfl)⟩
def F_X9_cut_73 (I : WI) (L : WL) (a1 : Int32) (a2 : Int32) (a3 : Int32) (a4 : Int32) (a5 : Int64) (a7 : Int32) : (Int32 × WI × WL) :=
  (fun q : Int32 × Int64 => (F_X9_cut_136 I L a1 a2 a3 a4 (p2 q))) (fr0 (fun i x => (F_X9_cut_79_1 I L a1 a2 a3 a4 i x)) a2 (fu a7 a2) a7 a5)
theorem V_X9_cut_73  {I : WI} {L : WL} {a1 : Int32} {a2 : Int32} {a3 : Int32} {a4 : Int32} {a5 : Int64} {a7 : Int32} {P : (Int32 × WI × WL) → Prop} {t : Tg} (hb7 : bz a7 = a7) (hr : ∀ v, P v → t = (some (.int (p1 v)), ly0, (p1 (p2 v)), (p2 (p2 v)), R0)) (kk : P (F_X9_cut_73 I L a1 a2 a3 a4 a5 a7)) : V (zM x_X9_cut 2 0 0 t) 73 [(0, .ref 33), (1, .int a1), (2, .int a2), (3, .int a3), (4, .int a4), (5, .long a5), (7, .int a7)] [] ly0 I L R0 0 0 :=
  V_fr0 (fun i x => (F_X9_cut_79_1 I L a1 a2 a3 a4 i x)) a2 (fun i x => V (zM x_X9_cut 2 0 0 t) 73 [(0, .ref 33), (1, .int a1), (2, .int a2), (3, .int a3), (4, .int a4), (5, .long x), (7, .int i)] [] ly0 I L R0 0 0) (fun i x => P ((F_X9_cut_136 I L a1 a2 a3 a4 x))) (c := a7) (s := a5) (fun i x kx kb => V_iload (tat ok_X9_cut_1 (i := 6) (q := 75) rfl rfl) 6 rfl <|
    V_iload_n (tat ok_X9_cut_1 (i := 7) (q := 76) rfl rfl) 2 rfl rfl <|
    V_icmp_ge (tat ok_X9_cut_1 (i := 8) (q := 79) rfl rfl) rfl (fun c0 => V_pick [0, 1, 2, 3, 4, 5] rfl (V_X9_cut_136  hr (kx c0))) (fun c0 => V_X9_cut_79_1 (P := (fun x => (fun i x => V (zM x_X9_cut 2 0 0 t) 73 [(0, .ref 33), (1, .int a1), (2, .int a2), (3, .int a3), (4, .int a4), (5, .long x), (7, .int i)] [] ly0 I L R0 0 0) (i + 1) x))  (fun _ e => e) (kb c0))) kk
def F_X9_cut (I : WI) (L : WL) (a1 : Int32) (a2 : Int32) (a3 : Int32) (a4 : Int32) : (Int32 × WI × WL) :=
  (if (F_X9_in (Int32.toInt64 a1) 0 (Int32.toInt64 ((I 33 0) - 1))) = 0 then (F_X9_cut_65 I L a1 a2 a3 a4) else (if (F_X9_in (Int32.toInt64 a2) 1 (Int32.toInt64 ((I 33 0) - a1))) = 0 then (F_X9_cut_65 I L a1 a2 a3 a4) else (if (F_X9_in (Int32.toInt64 a3) 0 (Int32.toInt64 ((I 33 1) - 1))) = 0 then (F_X9_cut_65 I L a1 a2 a3 a4) else (if (F_X9_in (Int32.toInt64 a4) 1 (Int32.toInt64 ((I 33 1) - a3))) = 0 then (F_X9_cut_65 I L a1 a2 a3 a4) else (F_X9_cut_73 I L a1 a2 a3 a4 0 0)))))
theorem V_X9_cut  {I : WI} {L : WL} {a1 : Int32} {a2 : Int32} {a3 : Int32} {a4 : Int32}  {P : (Int32 × WI × WL) → Prop} {t : Tg} (hr : ∀ v, P v → t = (some (.int (p1 v)), ly0, (p1 (p2 v)), (p2 (p2 v)), R0)) (kk : P (F_X9_cut I L a1 a2 a3 a4)) : V (zM x_X9_cut 2 0 0 t) 0 [(0, .ref 33), (1, .int a1), (2, .int a2), (3, .int a3), (4, .int a4)] [] ly0 I L R0 0 0 :=
  V_iload_n (tat ok_X9_cut_0 (i := 0) (q := 1) rfl rfl) 1 rfl rfl <|
    V_i2l (tat ok_X9_cut_0 (i := 1) (q := 2) rfl rfl) <|
    V_lconst (v := 0) (tat ok_X9_cut_0 (i := 2) (q := 3) rfl rfl) rfl <|
    V_aload_n (tat ok_X9_cut_0 (i := 3) (q := 4) rfl rfl) 0 rfl rfl <|
    V_getI (tat ok_X9_cut_0 (i := 4) (q := 7) rfl rfl) fk_X9_74 rfl <|
    V_iconst (tat ok_X9_cut_0 (i := 5) (q := 8) rfl rfl) ic_1 <|
    V_isub (tat ok_X9_cut_0 (i := 6) (q := 9) rfl rfl) <|
    V_i2l (tat ok_X9_cut_0 (i := 7) (q := 10) rfl rfl) <|
    V_cs3 (ct_X9_in I L (Int32.toInt64 a1) 0 (Int32.toInt64 ((I 33 0) - 1)) ) mo_X9_in (tat ok_X9_cut_0 (i := 8) (q := 13) rfl rfl) ml_X9_97 ⟨(Nat.le_of_ble_eq_true rfl), (Nat.le_of_ble_eq_true rfl)⟩ ⟨(Nat.le_of_ble_eq_true rfl), (Nat.le_of_ble_eq_true rfl)⟩ (Nat.le_of_ble_eq_true rfl) <|
    V_if_eq (tat ok_X9_cut_0 (i := 9) (q := 16) rfl rfl) rfl (fun c1 => V_X9_cut_65  hr (jx (P := P) kk (if_pos c1))) (fun c1 => V_iload_n (tat ok_X9_cut_0 (i := 10) (q := 17) rfl rfl) 2 rfl rfl <|
    V_i2l (tat ok_X9_cut_0 (i := 11) (q := 18) rfl rfl) <|
    V_lconst (v := 1) (tat ok_X9_cut_0 (i := 12) (q := 19) rfl rfl) rfl <|
    V_aload_n (tat ok_X9_cut_0 (i := 13) (q := 20) rfl rfl) 0 rfl rfl <|
    V_getI (tat ok_X9_cut_0 (i := 14) (q := 23) rfl rfl) fk_X9_74 rfl <|
    V_iload_n (tat ok_X9_cut_0 (i := 15) (q := 24) rfl rfl) 1 rfl rfl <|
    V_isub (tat ok_X9_cut_0 (i := 16) (q := 25) rfl rfl) <|
    V_i2l (tat ok_X9_cut_0 (i := 17) (q := 26) rfl rfl) <|
    V_cs3 (ct_X9_in I L (Int32.toInt64 a2) 1 (Int32.toInt64 ((I 33 0) - a1)) ) mo_X9_in (tat ok_X9_cut_0 (i := 18) (q := 29) rfl rfl) ml_X9_97 ⟨(Nat.le_of_ble_eq_true rfl), (Nat.le_of_ble_eq_true rfl)⟩ ⟨(Nat.le_of_ble_eq_true rfl), (Nat.le_of_ble_eq_true rfl)⟩ (Nat.le_of_ble_eq_true rfl) <|
    V_if_eq (tat ok_X9_cut_0 (i := 19) (q := 32) rfl rfl) rfl (fun c2 => V_X9_cut_65  hr (jx (P := P) kk (Eq.trans (if_neg c1) (if_pos c2)))) (fun c2 => V_iload_n (tat ok_X9_cut_0 (i := 20) (q := 33) rfl rfl) 3 rfl rfl <|
    V_i2l (tat ok_X9_cut_0 (i := 21) (q := 34) rfl rfl) <|
    V_lconst (v := 0) (tat ok_X9_cut_0 (i := 22) (q := 35) rfl rfl) rfl <|
    V_aload_n (tat ok_X9_cut_0 (i := 23) (q := 36) rfl rfl) 0 rfl rfl <|
    V_getI (tat ok_X9_cut_0 (i := 24) (q := 39) rfl rfl) fk_X9_77 rfl <|
    V_iconst (tat ok_X9_cut_0 (i := 25) (q := 40) rfl rfl) ic_1 <|
    V_isub (tat ok_X9_cut_0 (i := 26) (q := 41) rfl rfl) <|
    V_i2l (tat ok_X9_cut_0 (i := 27) (q := 42) rfl rfl) <|
    V_cs3 (ct_X9_in I L (Int32.toInt64 a3) 0 (Int32.toInt64 ((I 33 1) - 1)) ) mo_X9_in (tat ok_X9_cut_0 (i := 28) (q := 45) rfl rfl) ml_X9_97 ⟨(Nat.le_of_ble_eq_true rfl), (Nat.le_of_ble_eq_true rfl)⟩ ⟨(Nat.le_of_ble_eq_true rfl), (Nat.le_of_ble_eq_true rfl)⟩ (Nat.le_of_ble_eq_true rfl) <|
    V_if_eq (tat ok_X9_cut_0 (i := 29) (q := 48) rfl rfl) rfl (fun c3 => V_X9_cut_65  hr (jx (P := P) kk (Eq.trans (if_neg c1) (Eq.trans (if_neg c2) (if_pos c3))))) (fun c3 => V_iload (tat ok_X9_cut_0 (i := 30) (q := 50) rfl rfl) 4 rfl <|
    V_i2l (tat ok_X9_cut_0 (i := 31) (q := 51) rfl rfl) <|
    V_lconst (v := 1) (tat ok_X9_cut_0 (i := 32) (q := 52) rfl rfl) rfl <|
    V_aload_n (tat ok_X9_cut_0 (i := 33) (q := 53) rfl rfl) 0 rfl rfl <|
    V_getI (tat ok_X9_cut_0 (i := 34) (q := 56) rfl rfl) fk_X9_77 rfl <|
    V_iload_n (tat ok_X9_cut_0 (i := 35) (q := 57) rfl rfl) 3 rfl rfl <|
    V_isub (tat ok_X9_cut_0 (i := 36) (q := 58) rfl rfl) <|
    V_i2l (tat ok_X9_cut_0 (i := 37) (q := 59) rfl rfl) <|
    V_cs3 (ct_X9_in I L (Int32.toInt64 a4) 1 (Int32.toInt64 ((I 33 1) - a3)) ) mo_X9_in (tat ok_X9_cut_0 (i := 38) (q := 62) rfl rfl) ml_X9_97 ⟨(Nat.le_of_ble_eq_true rfl), (Nat.le_of_ble_eq_true rfl)⟩ ⟨(Nat.le_of_ble_eq_true rfl), (Nat.le_of_ble_eq_true rfl)⟩ (Nat.le_of_ble_eq_true rfl) <|
    V_if_ne (tat ok_X9_cut_0 (i := 39) (q := 65) rfl rfl) rfl (fun c4 => V_lconst (v := 0) (tat ok_X9_cut_1 (i := 2) (q := 68) rfl rfl) rfl <|
    V_lstore (lv' := [(5, .long 0), (0, .ref 33), (1, .int a1), (2, .int a2), (3, .int a3), (4, .int a4)]) (tat ok_X9_cut_1 (i := 3) (q := 70) rfl rfl) (Nat.le_of_ble_eq_true rfl) rfl <|
    V_iconst (tat ok_X9_cut_1 (i := 4) (q := 71) rfl rfl) ic_0 <|
    V_istore (lv' := [(7, .int 0), (5, .long 0), (0, .ref 33), (1, .int a1), (2, .int a2), (3, .int a3), (4, .int a4)]) (tat ok_X9_cut_1 (i := 5) (q := 73) rfl rfl) (Nat.le_of_ble_eq_true rfl) rfl <|
    V_pick [2, 3, 4, 5, 6, 1, 0] rfl (V_X9_cut_73 rfl hr (jx (P := P) kk (Eq.trans (if_neg c1) (Eq.trans (if_neg c2) (Eq.trans (if_neg c3) (if_neg c4))))))) (fun c4 => V_X9_cut_65  hr (jx (P := P) kk (Eq.trans (if_neg c1) (Eq.trans (if_neg c2) (Eq.trans (if_neg c3) (if_pos c4)))))))))
theorem ct_X9_cut  (I : WI) (L : WL) (a1 : Int32) (a2 : Int32) (a3 : Int32) (a4 : Int32)  : Ct x_X9_cut 2 [.ref 33, .int a1, .int a2, .int a3, .int a4] ly0 I L R0 0 0 (some (.int (p1 (F_X9_cut I L a1 a2 a3 a4))), ly0, (p1 (p2 (F_X9_cut I L a1 a2 a3 a4))), (p2 (p2 (F_X9_cut I L a1 a2 a3 a4))), R0) :=
  Ct_of_V mo_X9_cut.1 (Nat.le_of_ble_eq_true rfl) (V_X9_cut (P := fun x => x = (F_X9_cut I L a1 a2 a3 a4))  (fun _ e => by rw [e]) rfl)
def F_X9_sew_50 (I : WI) (L : WL) (a1 : Int32) (a2 : Int32) : Option (Int32 × WI × WL) :=
  some ((-2), I, L)
theorem V_X9_sew_50  {I : WI} {L : WL} {a1 : Int32} {a2 : Int32}  {P : (Int32 × WI × WL) → Prop} {t : Tg} (hr : ∀ v, P v → t = (some (.int (p1 v)), ly0, (p1 (p2 v)), (p2 (p2 v)), R0)) (kk : oP P (F_X9_sew_50 I L a1 a2)) : V (zM x_X9_sew 3 0 0 t) 50 [(0, .ref 33), (1, .int a1), (2, .int a2)] [] ly0 I L R0 0 0 :=
  V_bipush (tat ok_X9_sew_0 (i := 26) (q := 52) rfl rfl) bp_m2 <|
    V_iret (tat ok_X9_sew_0 (i := 27) (q := 53) rfl rfl) _ rfl (nar_int _) (hr ((-2), I, L) (jx (P := oP P) kk rfl)) ⟨(Nat.le_of_ble_eq_true rfl), (Nat.le_of_ble_eq_true rfl)⟩
def F_X9_sew_166 (I : WI) (L : WL) (a1 : Int32) (a2 : Int32) (s0 : Int32) (s1 : Int32) : Option (Int32 × WI × WL) :=
  some ((F_X9_many (L 33 2)), (F_X9_endsPattern (u2 I 33 1 (s1 + s0))), L)
theorem V_X9_sew_166  {I : WI} {L : WL} {a1 : Int32} {a2 : Int32} {s0 : Int32} {s1 : Int32} {P : (Int32 × WI × WL) → Prop} {t : Tg} (hr : ∀ v, P v → t = (some (.int (p1 v)), ly0, (p1 (p2 v)), (p2 (p2 v)), R0)) (kk : oP P (F_X9_sew_166 I L a1 a2 s0 s1)) : V (zM x_X9_sew 3 0 0 t) 166 [(0, .ref 33), (1, .int a1), (2, .int a2)] [.int s0, .int s1, .ref 33] ly0 I L R0 0 0 :=
  V_iadd (tat ok_X9_sew_2 (i := 12) (q := 167) rfl rfl) <|
    V_putI (tat ok_X9_sew_2 (i := 13) (q := 170) rfl rfl) fk_X9_77 rfl rfl <|
    V_aload_n (tat ok_X9_sew_2 (i := 14) (q := 171) rfl rfl) 0 rfl rfl <|
    V_cv0v (ct_X9_endsPattern (u2 I 33 1 (s1 + s0)) L  ) mo_X9_endsPattern (tat ok_X9_sew_2 (i := 15) (q := 174) rfl rfl) ml_X9_314 rfl ⟨by decide, _, rfl, rfl⟩ ⟨(Nat.le_of_ble_eq_true rfl), (Nat.le_of_ble_eq_true rfl)⟩ ⟨(Nat.le_of_ble_eq_true rfl), (Nat.le_of_ble_eq_true rfl)⟩ (Nat.le_of_ble_eq_true rfl) <|
    V_aload_n (tat ok_X9_sew_2 (i := 16) (q := 175) rfl rfl) 0 rfl rfl <|
    V_getL (tat ok_X9_sew_2 (i := 17) (q := 178) rfl rfl) fk_X9_80 rfl <|
    V_cs1 (ct_X9_many (F_X9_endsPattern (u2 I 33 1 (s1 + s0))) L (L 33 2) ) mo_X9_many (tat ok_X9_sew_2 (i := 18) (q := 181) rfl rfl) ml_X9_220 ⟨(Nat.le_of_ble_eq_true rfl), (Nat.le_of_ble_eq_true rfl)⟩ ⟨(Nat.le_of_ble_eq_true rfl), (Nat.le_of_ble_eq_true rfl)⟩ (Nat.le_of_ble_eq_true rfl) <|
    V_iret (tat ok_X9_sew_2 (i := 19) (q := 182) rfl rfl) _ rfl (nar_int _) (hr ((F_X9_many (L 33 2)), (F_X9_endsPattern (u2 I 33 1 (s1 + s0))), L) (jx (P := oP P) kk rfl)) ⟨(Nat.le_of_ble_eq_true rfl), (Nat.le_of_ble_eq_true rfl)⟩
def F_X9_sew_143 (I : WI) (L : WL) (a1 : Int32) (a2 : Int32) (s0 : Int32) (s1 : Int32) : Option (Int32 × WI × WL) :=
  (if a2 = 0 then (if a1 < 0 ∨ 2 ≤ Int32.toNatClampNeg a1 then none else (F_X9_sew_166 (u2 I 33 0 (s1 + s0)) L a1 a2 ((u2 I 33 0 (s1 + s0)) 37 (Int32.toNatClampNeg a1)) ((u2 I 33 0 (s1 + s0)) 33 1))) else (F_X9_sew_166 (u2 I 33 0 (s1 + s0)) L a1 a2 0 ((u2 I 33 0 (s1 + s0)) 33 1)))
theorem V_X9_sew_143  {I : WI} {L : WL} {a1 : Int32} {a2 : Int32} {s0 : Int32} {s1 : Int32} {P : (Int32 × WI × WL) → Prop} {t : Tg} (hr : ∀ v, P v → t = (some (.int (p1 v)), ly0, (p1 (p2 v)), (p2 (p2 v)), R0)) (kk : oP P (F_X9_sew_143 I L a1 a2 s0 s1)) : V (zM x_X9_sew 3 0 0 t) 143 [(0, .ref 33), (1, .int a1), (2, .int a2)] [.int s0, .int s1, .ref 33] ly0 I L R0 0 0 :=
  V_iadd (tat ok_X9_sew_1 (i := 39) (q := 144) rfl rfl) <|
    V_putI (tat ok_X9_sew_2 (i := 0) (q := 147) rfl rfl) fk_X9_74 rfl rfl <|
    V_aload_n (tat ok_X9_sew_2 (i := 1) (q := 148) rfl rfl) 0 rfl rfl <|
    V_dup (tat ok_X9_sew_2 (i := 2) (q := 149) rfl rfl) rfl <|
    V_getI (tat ok_X9_sew_2 (i := 3) (q := 152) rfl rfl) fk_X9_77 rfl <|
    V_iload_n (tat ok_X9_sew_2 (i := 4) (q := 153) rfl rfl) 2 rfl rfl <|
    V_if_eq (tat ok_X9_sew_2 (i := 5) (q := 156) rfl rfl) rfl (fun c14 => V_aload_n (tat ok_X9_sew_2 (i := 8) (q := 161) rfl rfl) 0 rfl rfl <|
    V_getR (tat ok_X9_sew_2 (i := 9) (q := 164) rfl rfl) fk_X9_20 rfl rfl <|
    V_iload_n (tat ok_X9_sew_2 (i := 10) (q := 165) rfl rfl) 1 rfl rfl <|
    (if c15 : a1 < 0 ∨ 2 ≤ Int32.toNatClampNeg a1 then ((jx (P := oP P) kk (Eq.trans (if_pos c14) (if_pos c15)))).elim else V_iald (tat ok_X9_sew_2 (i := 11) (q := 166) rfl rfl) rfl c15 <|
    V_X9_sew_166  hr (jx (P := oP P) kk (Eq.trans (if_pos c14) (if_neg c15))))) (fun c14 => V_iconst (tat ok_X9_sew_2 (i := 6) (q := 157) rfl rfl) ic_0 <|
    V_goto (tat ok_X9_sew_2 (i := 7) (q := 160) rfl rfl) rfl <|
    V_X9_sew_166  hr (jx (P := oP P) kk (if_neg c14)))
def F_X9_sew_119 (I : WI) (L : WL) (a1 : Int32) (a2 : Int32) (s0 : Int32) (s1 : Int64) (s2 : Int64) : Option (Int32 × WI × WL) :=
  (if a2 = 0 then (F_X9_sew_143 I (u2 L 33 2 (s2 ||| (lsh s1 s0))) a1 a2 0 (I 33 0)) else (if a1 < 0 ∨ 2 ≤ Int32.toNatClampNeg a1 then none else (F_X9_sew_143 I (u2 L 33 2 (s2 ||| (lsh s1 s0))) a1 a2 (I 36 (Int32.toNatClampNeg a1)) (I 33 0))))
theorem V_X9_sew_119  {I : WI} {L : WL} {a1 : Int32} {a2 : Int32} {s0 : Int32} {s1 : Int64} {s2 : Int64} {P : (Int32 × WI × WL) → Prop} {t : Tg} (hr : ∀ v, P v → t = (some (.int (p1 v)), ly0, (p1 (p2 v)), (p2 (p2 v)), R0)) (kk : oP P (F_X9_sew_119 I L a1 a2 s0 s1 s2)) : V (zM x_X9_sew 3 0 0 t) 119 [(0, .ref 33), (1, .int a1), (2, .int a2)] [.int s0, .long s1, .long s2, .ref 33] ly0 I L R0 0 0 :=
  V_lshl (tat ok_X9_sew_1 (i := 25) (q := 120) rfl rfl) <|
    V_lor (tat ok_X9_sew_1 (i := 26) (q := 121) rfl rfl) <|
    V_putL (tat ok_X9_sew_1 (i := 27) (q := 124) rfl rfl) fk_X9_80 rfl rfl <|
    V_aload_n (tat ok_X9_sew_1 (i := 28) (q := 125) rfl rfl) 0 rfl rfl <|
    V_dup (tat ok_X9_sew_1 (i := 29) (q := 126) rfl rfl) rfl <|
    V_getI (tat ok_X9_sew_1 (i := 30) (q := 129) rfl rfl) fk_X9_74 rfl <|
    V_iload_n (tat ok_X9_sew_1 (i := 31) (q := 130) rfl rfl) 2 rfl rfl <|
    V_if_eq (tat ok_X9_sew_1 (i := 32) (q := 133) rfl rfl) rfl (fun c13 => V_iconst (tat ok_X9_sew_1 (i := 38) (q := 143) rfl rfl) ic_0 <|
    V_X9_sew_143  hr (jx (P := oP P) kk (if_pos c13))) (fun c13 => V_aload_n (tat ok_X9_sew_1 (i := 33) (q := 134) rfl rfl) 0 rfl rfl <|
    V_getR (tat ok_X9_sew_1 (i := 34) (q := 137) rfl rfl) fk_X9_17 rfl rfl <|
    V_iload_n (tat ok_X9_sew_1 (i := 35) (q := 138) rfl rfl) 1 rfl rfl <|
    (if c16 : a1 < 0 ∨ 2 ≤ Int32.toNatClampNeg a1 then ((jx (P := oP P) kk (Eq.trans (if_neg c13) (if_pos c16)))).elim else V_iald (tat ok_X9_sew_1 (i := 36) (q := 139) rfl rfl) rfl c16 <|
    V_goto (tat ok_X9_sew_1 (i := 37) (q := 142) rfl rfl) rfl <|
    V_X9_sew_143  hr (jx (P := oP P) kk (Eq.trans (if_neg c13) (if_neg c16)))))
def F_X9_sew_82 (I : WI) (L : WL) (a1 : Int32) (a2 : Int32) (s0 : Int32) : Option (Int32 × WI × WL) :=
  (if s0 ≤ 8 then (if a1 < 0 ∨ 2 ≤ Int32.toNatClampNeg a1 then none else (if a2 = 0 then (F_X9_sew_119 I L a1 a2 (I 33 1) (L 35 (Int32.toNatClampNeg a1)) (L 33 2)) else (F_X9_sew_119 I L a1 a2 (8 * (I 33 0)) (L 35 (Int32.toNatClampNeg a1)) (L 33 2)))) else some ((-3), I, L))
theorem V_X9_sew_82  {I : WI} {L : WL} {a1 : Int32} {a2 : Int32} {s0 : Int32} {P : (Int32 × WI × WL) → Prop} {t : Tg} (hr : ∀ v, P v → t = (some (.int (p1 v)), ly0, (p1 (p2 v)), (p2 (p2 v)), R0)) (kk : oP P (F_X9_sew_82 I L a1 a2 s0)) : V (zM x_X9_sew 3 0 0 t) 82 [(0, .ref 33), (1, .int a1), (2, .int a2)] [.int s0] ly0 I L R0 0 0 :=
  V_bipush (tat ok_X9_sew_1 (i := 5) (q := 84) rfl rfl) bp_8 <|
    V_icmp_le (tat ok_X9_sew_1 (i := 6) (q := 87) rfl rfl) rfl (fun c10 => V_aload_n (tat ok_X9_sew_1 (i := 9) (q := 91) rfl rfl) 0 rfl rfl <|
    V_dup (tat ok_X9_sew_1 (i := 10) (q := 92) rfl rfl) rfl <|
    V_getL (tat ok_X9_sew_1 (i := 11) (q := 95) rfl rfl) fk_X9_80 rfl <|
    V_aload_n (tat ok_X9_sew_1 (i := 12) (q := 96) rfl rfl) 0 rfl rfl <|
    V_getR (tat ok_X9_sew_1 (i := 13) (q := 99) rfl rfl) fk_X9_13 rfl rfl <|
    V_iload_n (tat ok_X9_sew_1 (i := 14) (q := 100) rfl rfl) 1 rfl rfl <|
    (if c11 : a1 < 0 ∨ 2 ≤ Int32.toNatClampNeg a1 then ((jx (P := oP P) kk (Eq.trans (if_pos c10) (if_pos c11)))).elim else V_lald (tat ok_X9_sew_1 (i := 15) (q := 101) rfl rfl) rfl c11 <|
    V_iload_n (tat ok_X9_sew_1 (i := 16) (q := 102) rfl rfl) 2 rfl rfl <|
    V_if_eq (tat ok_X9_sew_1 (i := 17) (q := 105) rfl rfl) rfl (fun c12 => V_aload_n (tat ok_X9_sew_1 (i := 23) (q := 116) rfl rfl) 0 rfl rfl <|
    V_getI (tat ok_X9_sew_1 (i := 24) (q := 119) rfl rfl) fk_X9_77 rfl <|
    V_X9_sew_119  hr (jx (P := oP P) kk (Eq.trans (if_pos c10) (Eq.trans (if_neg c11) (if_pos c12))))) (fun c12 => V_bipush (tat ok_X9_sew_1 (i := 18) (q := 107) rfl rfl) bp_8 <|
    V_aload_n (tat ok_X9_sew_1 (i := 19) (q := 108) rfl rfl) 0 rfl rfl <|
    V_getI (tat ok_X9_sew_1 (i := 20) (q := 111) rfl rfl) fk_X9_74 rfl <|
    V_imul (tat ok_X9_sew_1 (i := 21) (q := 112) rfl rfl) <|
    V_goto (tat ok_X9_sew_1 (i := 22) (q := 115) rfl rfl) rfl <|
    V_X9_sew_119  hr (jx (P := oP P) kk (Eq.trans (if_pos c10) (Eq.trans (if_neg c11) (if_neg c12))))))) (fun c10 => V_bipush (tat ok_X9_sew_1 (i := 7) (q := 89) rfl rfl) bp_m3 <|
    V_iret (tat ok_X9_sew_1 (i := 8) (q := 90) rfl rfl) _ rfl (nar_int _) (hr ((-3), I, L) (jx (P := oP P) kk (if_neg c10))) ⟨(Nat.le_of_ble_eq_true rfl), (Nat.le_of_ble_eq_true rfl)⟩)
def F_X9_sew_53 (I : WI) (L : WL) (a1 : Int32) (a2 : Int32) : Option (Int32 × WI × WL) :=
  (if a2 = 0 then (if a1 < 0 ∨ 2 ≤ Int32.toNatClampNeg a1 then none else (F_X9_sew_82 I L a1 a2 ((I 33 1) + (I 37 (Int32.toNatClampNeg a1))))) else (if a1 < 0 ∨ 2 ≤ Int32.toNatClampNeg a1 then none else (F_X9_sew_82 I L a1 a2 ((I 33 0) + (I 36 (Int32.toNatClampNeg a1))))))
theorem V_X9_sew_53  {I : WI} {L : WL} {a1 : Int32} {a2 : Int32}  {P : (Int32 × WI × WL) → Prop} {t : Tg} (hr : ∀ v, P v → t = (some (.int (p1 v)), ly0, (p1 (p2 v)), (p2 (p2 v)), R0)) (kk : oP P (F_X9_sew_53 I L a1 a2)) : V (zM x_X9_sew 3 0 0 t) 53 [(0, .ref 33), (1, .int a1), (2, .int a2)] [] ly0 I L R0 0 0 :=
  V_iload_n (tat ok_X9_sew_0 (i := 28) (q := 54) rfl rfl) 2 rfl rfl <|
    V_if_eq (tat ok_X9_sew_0 (i := 29) (q := 57) rfl rfl) rfl (fun c8 => V_aload_n (tat ok_X9_sew_0 (i := 38) (q := 72) rfl rfl) 0 rfl rfl <|
    V_getI (tat ok_X9_sew_0 (i := 39) (q := 75) rfl rfl) fk_X9_77 rfl <|
    V_aload_n (tat ok_X9_sew_1 (i := 0) (q := 76) rfl rfl) 0 rfl rfl <|
    V_getR (tat ok_X9_sew_1 (i := 1) (q := 79) rfl rfl) fk_X9_20 rfl rfl <|
    V_iload_n (tat ok_X9_sew_1 (i := 2) (q := 80) rfl rfl) 1 rfl rfl <|
    (if c9 : a1 < 0 ∨ 2 ≤ Int32.toNatClampNeg a1 then ((jx (P := oP P) kk (Eq.trans (if_pos c8) (if_pos c9)))).elim else V_iald (tat ok_X9_sew_1 (i := 3) (q := 81) rfl rfl) rfl c9 <|
    V_iadd (tat ok_X9_sew_1 (i := 4) (q := 82) rfl rfl) <|
    V_X9_sew_82  hr (jx (P := oP P) kk (Eq.trans (if_pos c8) (if_neg c9))))) (fun c8 => V_aload_n (tat ok_X9_sew_0 (i := 30) (q := 58) rfl rfl) 0 rfl rfl <|
    V_getI (tat ok_X9_sew_0 (i := 31) (q := 61) rfl rfl) fk_X9_74 rfl <|
    V_aload_n (tat ok_X9_sew_0 (i := 32) (q := 62) rfl rfl) 0 rfl rfl <|
    V_getR (tat ok_X9_sew_0 (i := 33) (q := 65) rfl rfl) fk_X9_17 rfl rfl <|
    V_iload_n (tat ok_X9_sew_0 (i := 34) (q := 66) rfl rfl) 1 rfl rfl <|
    (if c17 : a1 < 0 ∨ 2 ≤ Int32.toNatClampNeg a1 then ((jx (P := oP P) kk (Eq.trans (if_neg c8) (if_pos c17)))).elim else V_iald (tat ok_X9_sew_0 (i := 35) (q := 67) rfl rfl) rfl c17 <|
    V_iadd (tat ok_X9_sew_0 (i := 36) (q := 68) rfl rfl) <|
    V_goto (tat ok_X9_sew_0 (i := 37) (q := 71) rfl rfl) rfl <|
    V_X9_sew_82  hr (jx (P := oP P) kk (Eq.trans (if_neg c8) (if_neg c17)))))
def F_X9_sew (I : WI) (L : WL) (a1 : Int32) (a2 : Int32) : Option (Int32 × WI × WL) :=
  (Option.bind (F_X9_isImage a1) (fun v1 => (if v1 = 0 then some ((-1), I, L) else (Option.bind (F_X9_isKept I a1) (fun v3 => (if v3 = 0 then (F_X9_sew_50 I L a1 a2) else (if a2 = 0 then (if a1 < 0 ∨ 2 ≤ Int32.toNatClampNeg a1 then none else (if (I 36 (Int32.toNatClampNeg a1)) = (I 33 0) then (F_X9_sew_53 I L a1 a2) else (F_X9_sew_50 I L a1 a2))) else (if a1 < 0 ∨ 2 ≤ Int32.toNatClampNeg a1 then none else (if (I 37 (Int32.toNatClampNeg a1)) = (I 33 1) then (F_X9_sew_53 I L a1 a2) else (F_X9_sew_50 I L a1 a2))))))))))
theorem V_X9_sew  {I : WI} {L : WL} {a1 : Int32} {a2 : Int32}  {P : (Int32 × WI × WL) → Prop} {t : Tg} (hr : ∀ v, P v → t = (some (.int (p1 v)), ly0, (p1 (p2 v)), (p2 (p2 v)), R0)) (kk : oP P (F_X9_sew I L a1 a2)) : V (zM x_X9_sew 3 0 0 t) 0 [(0, .ref 33), (1, .int a1), (2, .int a2)] [] ly0 I L R0 0 0 :=
  V_iload_n (tat ok_X9_sew_0 (i := 0) (q := 1) rfl rfl) 1 rfl rfl <|
    oP_case (jx (P := oP P) kk rfl) (fun v1 e1 _ => V_cs1 (ct_X9_isImage I L a1  e1) mo_X9_isImage (tat ok_X9_sew_0 (i := 1) (q := 4) rfl rfl) ml_X9_235 ⟨(Nat.le_of_ble_eq_true rfl), (Nat.le_of_ble_eq_true rfl)⟩ ⟨(Nat.le_of_ble_eq_true rfl), (Nat.le_of_ble_eq_true rfl)⟩ (Nat.le_of_ble_eq_true rfl) <|
    V_if_ne (tat ok_X9_sew_0 (i := 2) (q := 7) rfl rfl) rfl (fun c2 => V_aload_n (tat ok_X9_sew_0 (i := 5) (q := 10) rfl rfl) 0 rfl rfl <|
    V_iload_n (tat ok_X9_sew_0 (i := 6) (q := 11) rfl rfl) 1 rfl rfl <|
    oP_case (jx (P := oP P) kk (Eq.trans (ob e1) (if_neg c2))) (fun v3 e3 _ => V_cv1 (ct_X9_isKept I L a1  e3) mo_X9_isKept (tat ok_X9_sew_0 (i := 7) (q := 14) rfl rfl) ml_X9_239 rfl ⟨by decide, _, rfl, rfl⟩ ⟨(Nat.le_of_ble_eq_true rfl), (Nat.le_of_ble_eq_true rfl)⟩ ⟨(Nat.le_of_ble_eq_true rfl), (Nat.le_of_ble_eq_true rfl)⟩ (Nat.le_of_ble_eq_true rfl) <|
    V_if_eq (tat ok_X9_sew_0 (i := 8) (q := 17) rfl rfl) rfl (fun c4 => V_X9_sew_50  hr (jx (P := oP P) kk (Eq.trans (ob e1) (Eq.trans (if_neg c2) (Eq.trans (ob e3) (if_pos c4)))))) (fun c4 => V_iload_n (tat ok_X9_sew_0 (i := 9) (q := 18) rfl rfl) 2 rfl rfl <|
    V_if_eq (tat ok_X9_sew_0 (i := 10) (q := 21) rfl rfl) rfl (fun c5 => V_aload_n (tat ok_X9_sew_0 (i := 19) (q := 38) rfl rfl) 0 rfl rfl <|
    V_getR (tat ok_X9_sew_0 (i := 20) (q := 41) rfl rfl) fk_X9_17 rfl rfl <|
    V_iload_n (tat ok_X9_sew_0 (i := 21) (q := 42) rfl rfl) 1 rfl rfl <|
    (if c6 : a1 < 0 ∨ 2 ≤ Int32.toNatClampNeg a1 then ((jx (P := oP P) kk (Eq.trans (ob e1) (Eq.trans (if_neg c2) (Eq.trans (ob e3) (Eq.trans (if_neg c4) (Eq.trans (if_pos c5) (if_pos c6)))))))).elim else V_iald (tat ok_X9_sew_0 (i := 22) (q := 43) rfl rfl) rfl c6 <|
    V_aload_n (tat ok_X9_sew_0 (i := 23) (q := 44) rfl rfl) 0 rfl rfl <|
    V_getI (tat ok_X9_sew_0 (i := 24) (q := 47) rfl rfl) fk_X9_74 rfl <|
    V_icmp_eq (tat ok_X9_sew_0 (i := 25) (q := 50) rfl rfl) rfl (fun c7 => V_X9_sew_53  hr (jx (P := oP P) kk (Eq.trans (ob e1) (Eq.trans (if_neg c2) (Eq.trans (ob e3) (Eq.trans (if_neg c4) (Eq.trans (if_pos c5) (Eq.trans (if_neg c6) (if_pos c7))))))))) (fun c7 => V_X9_sew_50  hr (jx (P := oP P) kk (Eq.trans (ob e1) (Eq.trans (if_neg c2) (Eq.trans (ob e3) (Eq.trans (if_neg c4) (Eq.trans (if_pos c5) (Eq.trans (if_neg c6) (if_neg c7))))))))))) (fun c5 => V_aload_n (tat ok_X9_sew_0 (i := 11) (q := 22) rfl rfl) 0 rfl rfl <|
    V_getR (tat ok_X9_sew_0 (i := 12) (q := 25) rfl rfl) fk_X9_20 rfl rfl <|
    V_iload_n (tat ok_X9_sew_0 (i := 13) (q := 26) rfl rfl) 1 rfl rfl <|
    (if c18 : a1 < 0 ∨ 2 ≤ Int32.toNatClampNeg a1 then ((jx (P := oP P) kk (Eq.trans (ob e1) (Eq.trans (if_neg c2) (Eq.trans (ob e3) (Eq.trans (if_neg c4) (Eq.trans (if_neg c5) (if_pos c18)))))))).elim else V_iald (tat ok_X9_sew_0 (i := 14) (q := 27) rfl rfl) rfl c18 <|
    V_aload_n (tat ok_X9_sew_0 (i := 15) (q := 28) rfl rfl) 0 rfl rfl <|
    V_getI (tat ok_X9_sew_0 (i := 16) (q := 31) rfl rfl) fk_X9_77 rfl <|
    V_icmp_eq (tat ok_X9_sew_0 (i := 17) (q := 34) rfl rfl) rfl (fun c19 => V_X9_sew_53  hr (jx (P := oP P) kk (Eq.trans (ob e1) (Eq.trans (if_neg c2) (Eq.trans (ob e3) (Eq.trans (if_neg c4) (Eq.trans (if_neg c5) (Eq.trans (if_neg c18) (if_pos c19))))))))) (fun c19 => V_goto (tat ok_X9_sew_0 (i := 18) (q := 37) rfl rfl) rfl <|
    V_X9_sew_50  hr (jx (P := oP P) kk (Eq.trans (ob e1) (Eq.trans (if_neg c2) (Eq.trans (ob e3) (Eq.trans (if_neg c4) (Eq.trans (if_neg c5) (Eq.trans (if_neg c18) (if_neg c19)))))))))))))) (fun c2 => V_iconst (tat ok_X9_sew_0 (i := 3) (q := 8) rfl rfl) ic_m1 <|
    V_iret (tat ok_X9_sew_0 (i := 4) (q := 9) rfl rfl) _ rfl (nar_int _) (hr ((-1), I, L) (jx (P := oP P) kk (Eq.trans (ob e1) (if_pos c2)))) ⟨(Nat.le_of_ble_eq_true rfl), (Nat.le_of_ble_eq_true rfl)⟩))
theorem ct_X9_sew  (I : WI) (L : WL) (a1 : Int32) (a2 : Int32)  {v : (Int32 × WI × WL)} (h : (F_X9_sew I L a1 a2) = some v) : Ct x_X9_sew 3 [.ref 33, .int a1, .int a2] ly0 I L R0 0 0 (some (.int (p1 v)), ly0, (p1 (p2 v)), (p2 (p2 v)), R0) :=
  Ct_of_V mo_X9_sew.1 (Nat.le_of_ble_eq_true rfl) (V_X9_sew (P := fun x => x = v)  (fun _ e => by rw [e]) (by rw [h]; exact rfl))
def F_X9_findName_116_1 (I : WI) (L : WL) (a1 : Int64) (a3 : Int32) (a4 : Int32) (a5 : Int32) : (WI × WL) :=
  (I, L)
theorem V_X9_findName_116_1  {I : WI} {L : WL} {a1 : Int64} {a3 : Int32} {a4 : Int32} {a5 : Int32}  {P : (WI × WL) → Prop} {t : Tg} (hk : ∀ x : (WI × WL), P x → V (zM x_X9_findName 4 0 0 t) 9 [(0, .ref 33), (1, .long a1), (3, .int a3), (4, .int a4), (5, .int (a5 + 1))] [] ly0 (p1 x) (p2 x) R0 0 0) (kk : P (F_X9_findName_116_1 I L a1 a3 a4 a5)) : V (zM x_X9_findName 4 0 0 t) 116 [(0, .ref 33), (1, .long a1), (3, .int a3), (4, .int a4), (5, .int a5)] [] ly0 I L R0 0 0 :=
  V_iinc (v := (a5 + 1)) (lv' := [(5, .int (a5 + 1)), (0, .ref 33), (1, .long a1), (3, .int a3), (4, .int a4)]) (tat ok_X9_findName_1 (i := 19) (q := 119) rfl rfl) 4 rfl (ia ic_1) (Nat.le_of_ble_eq_true rfl) rfl <|
    V_goto (tat ok_X9_findName_1 (i := 20) (q := 122) rfl rfl) rfl <|
    V_pick [1, 2, 3, 4, 0] rfl (hk (I, L) (jx (P := P) kk rfl))
def F_X9_findName_92_1 (I : WI) (L : WL) (a1 : Int64) (a3 : Int32) (a4 : Int32) (a5 : Int32) (a6 : Int32) (a7 : Int32) (a8 : Int64) : (WI × WL) :=
  (F_X9_findName_116_1 (u2 (u2 (u2 I 33 40 a5) 33 41 a6) 33 42 a7) (u2 L 33 39 a8) a1 a3 a4 a5)
theorem V_X9_findName_92_1  {I : WI} {L : WL} {a1 : Int64} {a3 : Int32} {a4 : Int32} {a5 : Int32} {a6 : Int32} {a7 : Int32} {a8 : Int64} {P : (WI × WL) → Prop} {t : Tg} (hk : ∀ x : (WI × WL), P x → V (zM x_X9_findName 4 0 0 t) 9 [(0, .ref 33), (1, .long a1), (3, .int a3), (4, .int a4), (5, .int (a5 + 1))] [] ly0 (p1 x) (p2 x) R0 0 0) (kk : P (F_X9_findName_92_1 I L a1 a3 a4 a5 a6 a7 a8)) : V (zM x_X9_findName 4 0 0 t) 92 [(0, .ref 33), (1, .long a1), (3, .int a3), (4, .int a4), (5, .int a5), (6, .int a6), (7, .int a7), (8, .long a8)] [] ly0 I L R0 0 0 :=
  V_aload_n (tat ok_X9_findName_1 (i := 7) (q := 93) rfl rfl) 0 rfl rfl <|
    V_lload (tat ok_X9_findName_1 (i := 8) (q := 95) rfl rfl) 7 rfl <|
    V_putL (tat ok_X9_findName_1 (i := 9) (q := 98) rfl rfl) fk_X9_320 rfl rfl <|
    V_aload_n (tat ok_X9_findName_1 (i := 10) (q := 99) rfl rfl) 0 rfl rfl <|
    V_iload (tat ok_X9_findName_1 (i := 11) (q := 101) rfl rfl) 4 rfl <|
    V_putI (tat ok_X9_findName_1 (i := 12) (q := 104) rfl rfl) fk_X9_317 rfl rfl <|
    V_aload_n (tat ok_X9_findName_1 (i := 13) (q := 105) rfl rfl) 0 rfl rfl <|
    V_iload (tat ok_X9_findName_1 (i := 14) (q := 107) rfl rfl) 5 rfl <|
    V_putI (tat ok_X9_findName_1 (i := 15) (q := 110) rfl rfl) fk_X9_323 rfl rfl <|
    V_aload_n (tat ok_X9_findName_1 (i := 16) (q := 111) rfl rfl) 0 rfl rfl <|
    V_iload (tat ok_X9_findName_1 (i := 17) (q := 113) rfl rfl) 6 rfl <|
    V_putI (tat ok_X9_findName_1 (i := 18) (q := 116) rfl rfl) fk_X9_326 rfl rfl <|
    V_pick [0, 1, 2, 3, 4] rfl (V_X9_findName_116_1  hk (jx (P := P) kk rfl))
