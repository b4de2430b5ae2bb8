theorem V_X8_eod3_10  {I : WI} {L : WL} {r0 : Nat} {a1 : Int64} {a3 : Int32} {a4 : Int32}  {P : Int32 → Prop} {t : Tg} (hr0 : isX0 r0) (hl : a3.toInt ≤ 3) (hg : ¬ a3 < 1) (hr : ∀ v, P v → t = (some (.int v), ly0, I, L, R0)) (kk : P (F_X8_eod3_10 I r0 a1 a3 a4)) : V (zM x_X8_endOfDuel 8 0 0 t) 10 [(0, .ref r0), (1, .long a1), (3, .int a3), (4, .int a4)] [] ly0 I L R0 0 0 :=
  V_lload_n (tat ok_X8_endOfDuel_0 (i := 6) (q := 11) rfl rfl) 1 rfl rfl <|
    V_cs1 (ct_J13_bitCount_95d88 I L a1 ) mo_J13_bitCount_95d88 (tat ok_X8_endOfDuel_0 (i := 7) (q := 14) rfl rfl) ml_X8_322 ⟨(Nat.le_of_ble_eq_true rfl), (Nat.le_of_ble_eq_true rfl)⟩ ⟨(Nat.le_of_ble_eq_true rfl), (Nat.le_of_ble_eq_true rfl)⟩ (Nat.le_of_ble_eq_true rfl) <|
    V_iret (tat ok_X8_endOfDuel_0 (i := 8) (q := 15) rfl rfl) _ rfl (nar_int _) (hr (F_J13_bitCount_95d88 a1) (jx (P := P) kk rfl)) ⟨(Nat.le_of_ble_eq_true rfl), (Nat.le_of_ble_eq_true rfl)⟩
def F_X8_eod3_106_1 (I : WI) (r0 : Nat) (a1 : Int64) (a3 : Int32) (a4 : Int32) (a5 : Int32) (a7 : Int32) (a6 : Int32) : Int32 :=
  a6
theorem V_X8_eod3_106_1  {I : WI} {L : WL} {r0 : Nat} {a1 : Int64} {a3 : Int32} {a4 : Int32} {a5 : Int32} {a7 : Int32} {a6 : Int32} {P : Int32 → Prop} {t : Tg} (hr0 : isX0 r0) (hl : a3.toInt ≤ 3) (hg : ¬ a3 < 1) (hb5 : bz a5 = a5) (hk : ∀ x : Int32, P x → V (zM x_X8_endOfDuel 8 0 0 t) 50 [(0, .ref r0), (1, .long a1), (3, .int a3), (4, .int a4), (5, .int a5), (6, .int x), (7, .int (a7 + 1))] [] ly0 I L R0 0 0) (kk : P (F_X8_eod3_106_1 I r0 a1 a3 a4 a5 a7 a6)) : V (zM x_X8_endOfDuel 8 0 0 t) 106 [(0, .ref r0), (1, .long a1), (3, .int a3), (4, .int a4), (5, .int a5), (6, .int a6), (7, .int a7)] [] ly0 I L R0 0 0 :=
  V_iinc (v := (a7 + 1)) (lv' := [(7, .int (a7 + 1)), (0, .ref r0), (1, .long a1), (3, .int a3), (4, .int a4), (5, .int a5), (6, .int a6)]) (tat ok_X8_endOfDuel_1 (i := 18) (q := 109) rfl rfl) 6 rfl (ia ic_1) (Nat.le_of_ble_eq_true rfl) rfl <|
    V_goto (tat ok_X8_endOfDuel_1 (i := 19) (q := 112) rfl rfl) rfl <|
    V_pick [1, 2, 3, 4, 5, 6, 0] rfl (hk a6 (jx (P := P) kk rfl))
def F_X8_eod3_61_1 (I : WI) (r0 : Nat) (a1 : Int64) (a3 : Int32) (a4 : Int32) (a5 : Int32) (a7 : Int32) (a6 : Int32) : Int32 :=
  (if a4 = 0 then (if (F_X8_isBetter a4 (G_2 I r0 (a1 ^^^ (F_X0_squaresOf I r0 a5 a7)) (a3 - 1) 1) a6) = 0 then (F_X8_eod3_106_1 I r0 a1 a3 a4 a5 a7 a6) else (F_X8_eod3_106_1 I r0 a1 a3 a4 a5 a7 (G_2 I r0 (a1 ^^^ (F_X0_squaresOf I r0 a5 a7)) (a3 - 1) 1))) else (if (F_X8_isBetter a4 (G_2 I r0 (a1 ^^^ (F_X0_squaresOf I r0 a5 a7)) (a3 - 1) 0) a6) = 0 then (F_X8_eod3_106_1 I r0 a1 a3 a4 a5 a7 a6) else (F_X8_eod3_106_1 I r0 a1 a3 a4 a5 a7 (G_2 I r0 (a1 ^^^ (F_X0_squaresOf I r0 a5 a7)) (a3 - 1) 0))))
theorem V_X8_eod3_61_1  {I : WI} {L : WL} {r0 : Nat} {a1 : Int64} {a3 : Int32} {a4 : Int32} {a5 : Int32} {a7 : Int32} {a6 : Int32} {P : Int32 → Prop} {t : Tg} (hr0 : isX0 r0) (hl : a3.toInt ≤ 3) (hg : ¬ a3 < 1) (hb5 : bz a5 = a5) (hk : ∀ x : Int32, P x → V (zM x_X8_endOfDuel 8 0 0 t) 50 [(0, .ref r0), (1, .long a1), (3, .int a3), (4, .int a4), (5, .int a5), (6, .int x), (7, .int (a7 + 1))] [] ly0 I L R0 0 0) (kk : P (F_X8_eod3_61_1 I r0 a1 a3 a4 a5 a7 a6)) : V (zM x_X8_endOfDuel 8 0 0 t) 61 [(0, .ref r0), (1, .long a1), (3, .int a3), (4, .int a4), (5, .int a5), (6, .int a6), (7, .int a7)] [] ly0 I L R0 0 0 :=
  V_aload_n (tat ok_X8_endOfDuel_0 (i := 34) (q := 62) rfl rfl) 0 rfl rfl <|
    V_lload_n (tat ok_X8_endOfDuel_0 (i := 35) (q := 63) rfl rfl) 1 rfl rfl <|
    V_aload_n (tat ok_X8_endOfDuel_0 (i := 36) (q := 64) rfl rfl) 0 rfl rfl <|
    V_iload (tat ok_X8_endOfDuel_0 (i := 37) (q := 66) rfl rfl) 4 rfl <|
    V_iload (tat ok_X8_endOfDuel_0 (i := 38) (q := 68) rfl rfl) 6 rfl <|
    V_cv2 (ct_X0_squaresOf I L r0 a5 a7 hr0) mo_X0_squaresOf (tat ok_X8_endOfDuel_0 (i := 39) (q := 71) rfl rfl) ml_X8_155 hr0 ⟨by decide, _, rfl, rfl⟩ ⟨(Nat.le_of_ble_eq_true rfl), (Nat.le_of_ble_eq_true rfl)⟩ ⟨(Nat.le_of_ble_eq_true rfl), (Nat.le_of_ble_eq_true rfl)⟩ (Nat.le_of_ble_eq_true rfl) <|
    V_lxor (tat ok_X8_endOfDuel_1 (i := 0) (q := 72) rfl rfl) <|
    V_iload_n (tat ok_X8_endOfDuel_1 (i := 1) (q := 73) rfl rfl) 2 rfl rfl <|
    V_iconst (tat ok_X8_endOfDuel_1 (i := 2) (q := 74) rfl rfl) ic_1 <|
    V_isub (tat ok_X8_endOfDuel_1 (i := 3) (q := 75) rfl rfl) <|
    V_iload (tat ok_X8_endOfDuel_1 (i := 4) (q := 77) rfl rfl) 3 rfl <|
    V_if_ne (tat ok_X8_endOfDuel_1 (i := 5) (q := 80) rfl rfl) rfl (fun c5 => V_iconst (tat ok_X8_endOfDuel_1 (i := 8) (q := 85) rfl rfl) ic_0 <|
    V_cs4 (ct_G2 I L r0 (a1 ^^^ (F_X0_squaresOf I r0 a5 a7)) (a3 - 1) 0 hr0 (du hg hl rfl)) mo_X8_endOfDuel (tat ok_X8_endOfDuel_1 (i := 9) (q := 88) rfl rfl) ml_X8_237 ⟨(Nat.le_of_ble_eq_true rfl), (Nat.le_of_ble_eq_true rfl)⟩ ⟨(Nat.le_of_ble_eq_true rfl), (Nat.le_of_ble_eq_true rfl)⟩ (Nat.le_of_ble_eq_true rfl) <|
    V_istore (lv' := [(8, .int (G_2 I r0 (a1 ^^^ (F_X0_squaresOf I r0 a5 a7)) (a3 - 1) 0)), (0, .ref r0), (1, .long a1), (3, .int a3), (4, .int a4), (5, .int a5), (6, .int a6), (7, .int a7)]) (tat ok_X8_endOfDuel_1 (i := 10) (q := 90) rfl rfl) (Nat.le_of_ble_eq_true rfl) rfl <|
    V_iload (tat ok_X8_endOfDuel_1 (i := 11) (q := 92) rfl rfl) 4 rfl <|
    V_iload (tat ok_X8_endOfDuel_1 (i := 12) (q := 94) rfl rfl) 0 rfl <|
    V_iload (tat ok_X8_endOfDuel_1 (i := 13) (q := 96) rfl rfl) 6 rfl <|
    V_cs3 (ct_X8_isBetter I L a4 (G_2 I r0 (a1 ^^^ (F_X0_squaresOf I r0 a5 a7)) (a3 - 1) 0) a6 ) mo_X8_isBetter (tat ok_X8_endOfDuel_1 (i := 14) (q := 99) rfl rfl) ml_X8_241 ⟨(Nat.le_of_ble_eq_true rfl), (Nat.le_of_ble_eq_true rfl)⟩ ⟨(Nat.le_of_ble_eq_true rfl), (Nat.le_of_ble_eq_true rfl)⟩ (Nat.le_of_ble_eq_true rfl) <|
    V_if_eq (tat ok_X8_endOfDuel_1 (i := 15) (q := 102) rfl rfl) rfl (fun c7 => V_pick [1, 2, 3, 4, 5, 6, 7] rfl (V_X8_eod3_106_1 hr0 hl hg hb5 hk (jx (P := P) kk (Eq.trans (if_neg c5) (if_pos c7))))) (fun c7 => V_iload (tat ok_X8_endOfDuel_1 (i := 16) (q := 104) rfl rfl) 0 rfl <|
    V_istore (lv' := [(6, .int (G_2 I r0 (a1 ^^^ (F_X0_squaresOf I r0 a5 a7)) (a3 - 1) 0)), (8, .int (G_2 I r0 (a1 ^^^ (F_X0_squaresOf I r0 a5 a7)) (a3 - 1) 0)), (0, .ref r0), (1, .long a1), (3, .int a3), (4, .int a4), (5, .int a5), (7, .int a7)]) (tat ok_X8_endOfDuel_1 (i := 17) (q := 106) rfl rfl) (Nat.le_of_ble_eq_true rfl) rfl <|
    V_pick [2, 3, 4, 5, 6, 0, 7] rfl (V_X8_eod3_106_1 hr0 hl hg hb5 hk (jx (P := P) kk (Eq.trans (if_neg c5) (if_neg c7)))))) (fun c5 => V_iconst (tat ok_X8_endOfDuel_1 (i := 6) (q := 81) rfl rfl) ic_1 <|
    V_goto (tat ok_X8_endOfDuel_1 (i := 7) (q := 84) rfl rfl) rfl <|
    V_cs4 (ct_G2 I L r0 (a1 ^^^ (F_X0_squaresOf I r0 a5 a7)) (a3 - 1) 1 hr0 (du hg hl rfl)) mo_X8_endOfDuel (tat ok_X8_endOfDuel_1 (i := 9) (q := 88) rfl rfl) ml_X8_237 ⟨(Nat.le_of_ble_eq_true rfl), (Nat.le_of_ble_eq_true rfl)⟩ ⟨(Nat.le_of_ble_eq_true rfl), (Nat.le_of_ble_eq_true rfl)⟩ (Nat.le_of_ble_eq_true rfl) <|
    V_istore (lv' := [(8, .int (G_2 I r0 (a1 ^^^ (F_X0_squaresOf I r0 a5 a7)) (a3 - 1) 1)), (0, .ref r0), (1, .long a1), (3, .int a3), (4, .int a4), (5, .int a5), (6, .int a6), (7, .int a7)]) (tat ok_X8_endOfDuel_1 (i := 10) (q := 90) rfl rfl) (Nat.le_of_ble_eq_true rfl) rfl <|
    V_iload (tat ok_X8_endOfDuel_1 (i := 11) (q := 92) rfl rfl) 4 rfl <|
    V_iload (tat ok_X8_endOfDuel_1 (i := 12) (q := 94) rfl rfl) 0 rfl <|
    V_iload (tat ok_X8_endOfDuel_1 (i := 13) (q := 96) rfl rfl) 6 rfl <|
    V_cs3 (ct_X8_isBetter I L a4 (G_2 I r0 (a1 ^^^ (F_X0_squaresOf I r0 a5 a7)) (a3 - 1) 1) a6 ) mo_X8_isBetter (tat ok_X8_endOfDuel_1 (i := 14) (q := 99) rfl rfl) ml_X8_241 ⟨(Nat.le_of_ble_eq_true rfl), (Nat.le_of_ble_eq_true rfl)⟩ ⟨(Nat.le_of_ble_eq_true rfl), (Nat.le_of_ble_eq_true rfl)⟩ (Nat.le_of_ble_eq_true rfl) <|
    V_if_eq (tat ok_X8_endOfDuel_1 (i := 15) (q := 102) rfl rfl) rfl (fun c6 => V_pick [1, 2, 3, 4, 5, 6, 7] rfl (V_X8_eod3_106_1 hr0 hl hg hb5 hk (jx (P := P) kk (Eq.trans (if_pos c5) (if_pos c6))))) (fun c6 => V_iload (tat ok_X8_endOfDuel_1 (i := 16) (q := 104) rfl rfl) 0 rfl <|
    V_istore (lv' := [(6, .int (G_2 I r0 (a1 ^^^ (F_X0_squaresOf I r0 a5 a7)) (a3 - 1) 1)), (8, .int (G_2 I r0 (a1 ^^^ (F_X0_squaresOf I r0 a5 a7)) (a3 - 1) 1)), (0, .ref r0), (1, .long a1), (3, .int a3), (4, .int a4), (5, .int a5), (7, .int a7)]) (tat ok_X8_endOfDuel_1 (i := 17) (q := 106) rfl rfl) (Nat.le_of_ble_eq_true rfl) rfl <|
    V_pick [2, 3, 4, 5, 6, 0, 7] rfl (V_X8_eod3_106_1 hr0 hl hg hb5 hk (jx (P := P) kk (Eq.trans (if_pos c5) (if_neg c6))))))
def F_X8_eod3_112 (I : WI) (r0 : Nat) (a1 : Int64) (a3 : Int32) (a4 : Int32) (a6 : Int32) : Int32 :=
  a6
theorem V_X8_eod3_112  {I : WI} {L : WL} {r0 : Nat} {a1 : Int64} {a3 : Int32} {a4 : Int32} {a6 : Int32} {P : Int32 → Prop} {t : Tg} (hr0 : isX0 r0) (hl : a3.toInt ≤ 3) (hg : ¬ a3 < 1) (hr : ∀ v, P v → t = (some (.int v), ly0, I, L, R0)) (kk : P (F_X8_eod3_112 I r0 a1 a3 a4 a6)) : V (zM x_X8_endOfDuel 8 0 0 t) 112 [(0, .ref r0), (1, .long a1), (3, .int a3), (4, .int a4), (6, .int a6)] [] ly0 I L R0 0 0 :=
  V_iload (tat ok_X8_endOfDuel_1 (i := 20) (q := 114) rfl rfl) 4 rfl <|
    V_iret (tat ok_X8_endOfDuel_1 (i := 21) (q := 115) rfl rfl) _ rfl (nar_int _) (hr a6 (jx (P := P) kk rfl)) ⟨(Nat.le_of_ble_eq_true rfl), (Nat.le_of_ble_eq_true rfl)⟩
def F_X8_eod3_50 (I : WI) (r0 : Nat) (a1 : Int64) (a3 : Int32) (a4 : Int32) (a5 : Int32) (a6 : Int32) (a7 : Int32) : Int32 :=
  (fun q : Int32 × Int32 => (F_X8_eod3_112 I r0 a1 a3 a4 (p2 q))) (fr0 (fun i x => (F_X8_eod3_61_1 I r0 a1 a3 a4 a5 i x)) (F_X0_linesOf I r0 a5) (fu a7 (F_X0_linesOf I r0 a5)) a7 a6)
theorem V_X8_eod3_50  {I : WI} {L : WL} {r0 : Nat} {a1 : Int64} {a3 : Int32} {a4 : Int32} {a5 : Int32} {a6 : Int32} {a7 : Int32} {P : Int32 → Prop} {t : Tg} (hr0 : isX0 r0) (hl : a3.toInt ≤ 3) (hg : ¬ a3 < 1) (hb5 : bz a5 = a5) (hb7 : bz a7 = a7) (hr : ∀ v, P v → t = (some (.int v), ly0, I, L, R0)) (kk : P (F_X8_eod3_50 I r0 a1 a3 a4 a5 a6 a7)) : V (zM x_X8_endOfDuel 8 0 0 t) 50 [(0, .ref r0), (1, .long a1), (3, .int a3), (4, .int a4), (5, .int a5), (6, .int a6), (7, .int a7)] [] ly0 I L R0 0 0 :=
  V_fr0 (fun i x => (F_X8_eod3_61_1 I r0 a1 a3 a4 a5 i x)) (F_X0_linesOf I r0 a5) (fun i x => V (zM x_X8_endOfDuel 8 0 0 t) 50 [(0, .ref r0), (1, .long a1), (3, .int a3), (4, .int a4), (5, .int a5), (6, .int x), (7, .int i)] [] ly0 I L R0 0 0) (fun i x => P ((F_X8_eod3_112 I r0 a1 a3 a4 x))) (c := a7) (s := a6) (fun i x kx kb => V_iload (tat ok_X8_endOfDuel_0 (i := 29) (q := 52) rfl rfl) 6 rfl <|
    V_aload_n (tat ok_X8_endOfDuel_0 (i := 30) (q := 53) rfl rfl) 0 rfl rfl <|
    V_iload (tat ok_X8_endOfDuel_0 (i := 31) (q := 55) rfl rfl) 4 rfl <|
    V_cv1 (ct_X0_linesOf I L r0 a5 hr0) mo_X0_linesOf (tat ok_X8_endOfDuel_0 (i := 32) (q := 58) rfl rfl) ml_X8_126 hr0 ⟨by decide, _, rfl, rfl⟩ ⟨(Nat.le_of_ble_eq_true rfl), (Nat.le_of_ble_eq_true rfl)⟩ ⟨(Nat.le_of_ble_eq_true rfl), (Nat.le_of_ble_eq_true rfl)⟩ (Nat.le_of_ble_eq_true rfl) <|
    V_icmp_ge (tat ok_X8_endOfDuel_0 (i := 33) (q := 61) rfl rfl) rfl (fun c0 => V_pick [0, 1, 2, 3, 5] rfl (V_X8_eod3_112 hr0 hl hg hr (kx c0))) (fun c0 => V_X8_eod3_61_1 (P := (fun x => (fun i x => V (zM x_X8_endOfDuel 8 0 0 t) 50 [(0, .ref r0), (1, .long a1), (3, .int a3), (4, .int a4), (5, .int a5), (6, .int x), (7, .int i)] [] ly0 I L R0 0 0) (i + 1) x)) hr0 hl hg hb5 (fun _ e => e) (kb c0))) kk
def F_X8_eod3_25 (I : WI) (r0 : Nat) (a1 : Int64) (a3 : Int32) (a4 : Int32) (s0 : Int32) : Int32 :=
  (if a4 = 0 then (F_X8_eod3_50 I r0 a1 a3 a4 s0 (G_2 I r0 a1 (a3 - 1) 1) 0) else (F_X8_eod3_50 I r0 a1 a3 a4 s0 (G_2 I r0 a1 (a3 - 1) 0) 0))
theorem V_X8_eod3_25  {I : WI} {L : WL} {r0 : Nat} {a1 : Int64} {a3 : Int32} {a4 : Int32} {s0 : Int32} {P : Int32 → Prop} {t : Tg} (hr0 : isX0 r0) (hl : a3.toInt ≤ 3) (hg : ¬ a3 < 1) (hs0 : bz s0 = s0) (hr : ∀ v, P v → t = (some (.int v), ly0, I, L, R0)) (kk : P (F_X8_eod3_25 I r0 a1 a3 a4 s0)) : V (zM x_X8_endOfDuel 8 0 0 t) 25 [(0, .ref r0), (1, .long a1), (3, .int a3), (4, .int a4)] [.int s0] ly0 I L R0 0 0 :=
  V_istore (lv' := [(5, .int s0), (0, .ref r0), (1, .long a1), (3, .int a3), (4, .int a4)]) (tat ok_X8_endOfDuel_0 (i := 14) (q := 27) rfl rfl) (Nat.le_of_ble_eq_true rfl) rfl <|
    V_aload_n (tat ok_X8_endOfDuel_0 (i := 15) (q := 28) rfl rfl) 1 rfl rfl <|
    V_lload_n (tat ok_X8_endOfDuel_0 (i := 16) (q := 29) rfl rfl) 2 rfl rfl <|
    V_iload_n (tat ok_X8_endOfDuel_0 (i := 17) (q := 30) rfl rfl) 3 rfl rfl <|
    V_iconst (tat ok_X8_endOfDuel_0 (i := 18) (q := 31) rfl rfl) ic_1 <|
    V_isub (tat ok_X8_endOfDuel_0 (i := 19) (q := 32) rfl rfl) <|
    V_iload (tat ok_X8_endOfDuel_0 (i := 20) (q := 34) rfl rfl) 4 rfl <|
    V_if_ne (tat ok_X8_endOfDuel_0 (i := 21) (q := 37) rfl rfl) rfl (fun c4 => V_iconst (tat ok_X8_endOfDuel_0 (i := 24) (q := 42) rfl rfl) ic_0 <|
    V_cs4 (ct_G2 I L r0 a1 (a3 - 1) 0 hr0 (du hg hl rfl)) mo_X8_endOfDuel (tat ok_X8_endOfDuel_0 (i := 25) (q := 45) rfl rfl) ml_X8_237 ⟨(Nat.le_of_ble_eq_true rfl), (Nat.le_of_ble_eq_true rfl)⟩ ⟨(Nat.le_of_ble_eq_true rfl), (Nat.le_of_ble_eq_true rfl)⟩ (Nat.le_of_ble_eq_true rfl) <|
    V_istore (lv' := [(6, .int (G_2 I r0 a1 (a3 - 1) 0)), (5, .int s0), (0, .ref r0), (1, .long a1), (3, .int a3), (4, .int a4)]) (tat ok_X8_endOfDuel_0 (i := 26) (q := 47) rfl rfl) (Nat.le_of_ble_eq_true rfl) rfl <|
    V_iconst (tat ok_X8_endOfDuel_0 (i := 27) (q := 48) rfl rfl) ic_0 <|
    V_istore (lv' := [(7, .int 0), (6, .int (G_2 I r0 a1 (a3 - 1) 0)), (5, .int s0), (0, .ref r0), (1, .long a1), (3, .int a3), (4, .int a4)]) (tat ok_X8_endOfDuel_0 (i := 28) (q := 50) rfl rfl) (Nat.le_of_ble_eq_true rfl) rfl <|
    V_pick [3, 4, 5, 6, 2, 1, 0] rfl (V_X8_eod3_50 hr0 hl hg hs0 rfl hr (jx (P := P) kk (if_neg c4)))) (fun c4 => V_iconst (tat ok_X8_endOfDuel_0 (i := 22) (q := 38) rfl rfl) ic_1 <|
    V_goto (tat ok_X8_endOfDuel_0 (i := 23) (q := 41) rfl rfl) rfl <|
    V_cs4 (ct_G2 I L r0 a1 (a3 - 1) 1 hr0 (du hg hl rfl)) mo_X8_endOfDuel (tat ok_X8_endOfDuel_0 (i := 25) (q := 45) rfl rfl) ml_X8_237 ⟨(Nat.le_of_ble_eq_true rfl), (Nat.le_of_ble_eq_true rfl)⟩ ⟨(Nat.le_of_ble_eq_true rfl), (Nat.le_of_ble_eq_true rfl)⟩ (Nat.le_of_ble_eq_true rfl) <|
    V_istore (lv' := [(6, .int (G_2 I r0 a1 (a3 - 1) 1)), (5, .int s0), (0, .ref r0), (1, .long a1), (3, .int a3), (4, .int a4)]) (tat ok_X8_endOfDuel_0 (i := 26) (q := 47) rfl rfl) (Nat.le_of_ble_eq_true rfl) rfl <|
    V_iconst (tat ok_X8_endOfDuel_0 (i := 27) (q := 48) rfl rfl) ic_0 <|
    V_istore (lv' := [(7, .int 0), (6, .int (G_2 I r0 a1 (a3 - 1) 1)), (5, .int s0), (0, .ref r0), (1, .long a1), (3, .int a3), (4, .int a4)]) (tat ok_X8_endOfDuel_0 (i := 28) (q := 50) rfl rfl) (Nat.le_of_ble_eq_true rfl) rfl <|
    V_pick [3, 4, 5, 6, 2, 1, 0] rfl (V_X8_eod3_50 hr0 hl hg hs0 rfl hr (jx (P := P) kk (if_pos c4))))
def F_X8_eod3 (I : WI) (r0 : Nat) (a1 : Int64) (a3 : Int32) (a4 : Int32) : Int32 :=
  (if a3 < 1 then (F_X8_eod3_10 I r0 a1 a3 a4) else (if a3 ≤ 4 then (if a4 = 0 then (F_X8_eod3_25 I r0 a1 a3 a4 1) else (F_X8_eod3_25 I r0 a1 a3 a4 0)) else (F_X8_eod3_10 I r0 a1 a3 a4)))
theorem V_X8_eod3  {I : WI} {L : WL} {r0 : Nat} {a1 : Int64} {a3 : Int32} {a4 : Int32}  {P : Int32 → Prop} {t : Tg} (hr0 : isX0 r0) (hl : a3.toInt ≤ 3) (hg : ¬ a3 < 1) (hr : ∀ v, P v → t = (some (.int v), ly0, I, L, R0)) (kk : P (F_X8_eod3 I r0 a1 a3 a4)) : V (zM x_X8_endOfDuel 8 0 0 t) 0 [(0, .ref r0), (1, .long a1), (3, .int a3), (4, .int a4)] [] ly0 I L R0 0 0 :=
  V_iload_n (tat ok_X8_endOfDuel_0 (i := 0) (q := 1) rfl rfl) 2 rfl rfl <|
    V_iconst (tat ok_X8_endOfDuel_0 (i := 1) (q := 2) rfl rfl) ic_1 <|
    V_icmp_lt (tat ok_X8_endOfDuel_0 (i := 2) (q := 5) rfl rfl) rfl (fun c1 => V_X8_eod3_10 hr0 hl hg hr (jx (P := P) kk (if_pos c1))) (fun c1 => V_iload_n (tat ok_X8_endOfDuel_0 (i := 3) (q := 6) rfl rfl) 2 rfl rfl <|
    V_iconst (tat ok_X8_endOfDuel_0 (i := 4) (q := 7) rfl rfl) ic_4 <|
    V_icmp_le (tat ok_X8_endOfDuel_0 (i := 5) (q := 10) rfl rfl) rfl (fun c2 => V_iload (tat ok_X8_endOfDuel_0 (i := 9) (q := 17) rfl rfl) 3 rfl <|
    V_if_eq (tat ok_X8_endOfDuel_0 (i := 10) (q := 20) rfl rfl) rfl (fun c3 => V_iconst (tat ok_X8_endOfDuel_0 (i := 13) (q := 25) rfl rfl) ic_1 <|
    V_X8_eod3_25 hr0 hl hg rfl hr (jx (P := P) kk (Eq.trans (if_neg c1) (Eq.trans (if_pos c2) (if_pos c3))))) (fun c3 => V_iconst (tat ok_X8_endOfDuel_0 (i := 11) (q := 21) rfl rfl) ic_0 <|
    V_goto (tat ok_X8_endOfDuel_0 (i := 12) (q := 24) rfl rfl) rfl <|
    V_X8_eod3_25 hr0 hl hg rfl hr (jx (P := P) kk (Eq.trans (if_neg c1) (Eq.trans (if_pos c2) (if_neg c3)))))) (fun c2 => V_X8_eod3_10 hr0 hl hg hr (jx (P := P) kk (Eq.trans (if_neg c1) (if_neg c2)))))
theorem ct_X8_eod3  (I : WI) (L : WL) (r0 : Nat) (a1 : Int64) (a3 : Int32) (a4 : Int32) (hr0 : isX0 r0) (hl : a3.toInt ≤ 3) (hg : ¬ a3 < 1) : Ct x_X8_endOfDuel 8 [.ref r0, .long a1, .int a3, .int a4] ly0 I L R0 0 0 (some (.int (F_X8_eod3 I r0 a1 a3 a4)), ly0, I, L, R0) :=
  Ct_of_V mo_X8_endOfDuel.1 (Nat.le_of_ble_eq_true rfl) (V_X8_eod3 (P := fun x => x = (F_X8_eod3 I r0 a1 a3 a4)) hr0 hl hg (fun _ e => by rw [e]) rfl)
def G_3 (I : WI) (r0 : Nat) (a1 : Int64) (a3 : Int32) (a4 : Int32) : Int32 := if a3 < 1 then G_0 I r0 a1 a3 a4 else F_X8_eod3 I r0 a1 a3 a4
theorem ct_G3 (I : WI) (L : WL) (r0 : Nat) (a1 : Int64) (a3 : Int32) (a4 : Int32) (hr0 : isX0 r0) (hl : a3.toInt ≤ 3) : Ct x_X8_endOfDuel 8 [.ref r0, .long a1, .int a3, .int a4] ly0 I L R0 0 0 (some (.int (G_3 I r0 a1 a3 a4)), ly0, I, L, R0) := by
  unfold G_3
  by_cases hg : a3 < 1
  · rw [if_pos hg]
    exact Ct_of_V mo_X8_endOfDuel.1 (Nat.le_of_ble_eq_true rfl) (V_iload_n (tat ok_X8_endOfDuel_0 (i := 0) (q := 1) rfl rfl) 2 rfl rfl <|
    V_iconst (tat ok_X8_endOfDuel_0 (i := 1) (q := 2) rfl rfl) ic_1 <|
    V_icmp_lt (tat ok_X8_endOfDuel_0 (i := 2) (q := 5) rfl rfl) rfl (fun _ => V_lload_n (tat ok_X8_endOfDuel_0 (i := 6) (q := 11) rfl rfl) 1 rfl rfl <|
    V_cs1 (ct_J13_bitCount_95d88 I L a1) mo_J13_bitCount_95d88 (tat ok_X8_endOfDuel_0 (i := 7) (q := 14) rfl rfl) ml_X8_322 ⟨(Nat.le_of_ble_eq_true rfl), (Nat.le_of_ble_eq_true rfl)⟩ ⟨(Nat.le_of_ble_eq_true rfl), (Nat.le_of_ble_eq_true rfl)⟩ (Nat.le_of_ble_eq_true rfl) <|
    V_iret (tat ok_X8_endOfDuel_0 (i := 8) (q := 15) rfl rfl) _ rfl (nar_int _) rfl ⟨(Nat.le_of_ble_eq_true rfl), (Nat.le_of_ble_eq_true rfl)⟩) (fun c => absurd hg c))
  · rw [if_neg hg]
    exact ct_X8_eod3 I L r0 a1 a3 a4 hr0 hl hg
def F_X8_duel_19 (I : WI) (L : WL) (a1 : Int32) (a2 : Int32) (a3 : Int32) : Option Int32 :=
  some (-1)
theorem V_X8_duel_19  {I : WI} {L : WL} {a1 : Int32} {a2 : Int32} {a3 : Int32}  {P : Int32 → Prop} {t : Tg} (hr : ∀ v, P v → t = (some (.int v), ly0, I, L, R0)) (kk : oP P (F_X8_duel_19 I L a1 a2 a3)) : V (zM x_X8_duel 9 0 0 t) 19 [(0, .ref 0), (1, .int a1), (2, .int a2), (3, .int a3)] [] ly0 I L R0 0 0 :=
  V_iconst (tat ok_X8_duel_0 (i := 11) (q := 20) rfl rfl) ic_m1 <|
    V_iret (tat ok_X8_duel_0 (i := 12) (q := 21) rfl rfl) _ rfl (nar_int _) (hr (-1) (jx (P := oP P) kk rfl)) ⟨(Nat.le_of_ble_eq_true rfl), (Nat.le_of_ble_eq_true rfl)⟩
def F_X8_duel_122_1 (I : WI) (L : WL) (a1 : Int32) (a2 : Int32) (a3 : Int32) (a4 : Int32) (a7 : Int32) (a5 : Int32) (a6 : Int32) : Option (Int32 × Int32) :=
  some (a5, a6)
theorem V_X8_duel_122_1  {I : WI} {L : WL} {a1 : Int32} {a2 : Int32} {a3 : Int32} {a4 : Int32} {a7 : Int32} {a5 : Int32} {a6 : Int32} {P : (Int32 × Int32) → Prop} {t : Tg} (hb4 : bz a4 = a4) (hk : ∀ x : (Int32 × Int32), P x → V (zM x_X8_duel 9 0 0 t) 42 [(0, .ref 0), (1, .int a1), (2, .int a2), (3, .int a3), (4, .int a4), (5, .int (p1 x)), (6, .int (p2 x)), (7, .int (a7 + 1))] [] ly0 I L R0 0 0) (kk : oP P (F_X8_duel_122_1 I L a1 a2 a3 a4 a7 a5 a6)) : V (zM x_X8_duel 9 0 0 t) 122 [(0, .ref 0), (1, .int a1), (2, .int a2), (3, .int a3), (4, .int a4), (5, .int a5), (6, .int a6), (7, .int a7)] [] ly0 I L R0 0 0 :=
  V_iinc (v := (a7 + 1)) (lv' := [(7, .int (a7 + 1)), (0, .ref 0), (1, .int a1), (2, .int a2), (3, .int a3), (4, .int a4), (5, .int a5), (6, .int a6)]) (tat ok_X8_duel_1 (i := 24) (q := 125) rfl rfl) 7 rfl (ia ic_1) (Nat.le_of_ble_eq_true rfl) rfl <|
    V_goto (tat ok_X8_duel_1 (i := 25) (q := 128) rfl rfl) rfl <|
    V_pick [1, 2, 3, 4, 5, 6, 7, 0] rfl (hk (a5, a6) (jx (P := oP P) kk rfl))
def F_X8_duel_114_1 (I : WI) (L : WL) (a1 : Int32) (a2 : Int32) (a3 : Int32) (a4 : Int32) (a7 : Int32) (a8 : Int32) : Option (Int32 × Int32) :=
  (F_X8_duel_122_1 I L a1 a2 a3 a4 a7 a7 a8)
theorem V_X8_duel_114_1  {I : WI} {L : WL} {a1 : Int32} {a2 : Int32} {a3 : Int32} {a4 : Int32} {a7 : Int32} {a8 : Int32} {P : (Int32 × Int32) → Prop} {t : Tg} (hb4 : bz a4 = a4) (hk : ∀ x : (Int32 × Int32), P x → V (zM x_X8_duel 9 0 0 t) 42 [(0, .ref 0), (1, .int a1), (2, .int a2), (3, .int a3), (4, .int a4), (5, .int (p1 x)), (6, .int (p2 x)), (7, .int (a7 + 1))] [] ly0 I L R0 0 0) (kk : oP P (F_X8_duel_114_1 I L a1 a2 a3 a4 a7 a8)) : V (zM x_X8_duel 9 0 0 t) 114 [(0, .ref 0), (1, .int a1), (2, .int a2), (3, .int a3), (4, .int a4), (7, .int a7), (8, .int a8)] [] ly0 I L R0 0 0 :=
  V_iload (tat ok_X8_duel_1 (i := 20) (q := 116) rfl rfl) 5 rfl <|
    V_istore (lv' := [(5, .int a7), (0, .ref 0), (1, .int a1), (2, .int a2), (3, .int a3), (4, .int a4), (7, .int a7), (8, .int a8)]) (tat ok_X8_duel_1 (i := 21) (q := 118) rfl rfl) (Nat.le_of_ble_eq_true rfl) rfl <|
    V_iload (tat ok_X8_duel_1 (i := 22) (q := 120) rfl rfl) 7 rfl <|
    V_istore (lv' := [(6, .int a8), (5, .int a7), (0, .ref 0), (1, .int a1), (2, .int a2), (3, .int a3), (4, .int a4), (7, .int a7), (8, .int a8)]) (tat ok_X8_duel_1 (i := 23) (q := 122) rfl rfl) (Nat.le_of_ble_eq_true rfl) rfl <|
    V_pick [2, 3, 4, 5, 6, 1, 0, 7] rfl (V_X8_duel_122_1 hb4 hk (jx (P := oP P) kk rfl))
def F_X8_duel_91_1 (I : WI) (L : WL) (a1 : Int32) (a2 : Int32) (a3 : Int32) (a4 : Int32) (a7 : Int32) (a5 : Int32) (a6 : Int32) (s0 : Int32) (s1 : Int32) (s2 : Int64) : Option (Int32 × Int32) :=
  (if (Int32.toInt s1) ≤ (3 : Int) then (if a5 = 8 then (F_X8_duel_114_1 I L a1 a2 a3 a4 a7 (G_3 I 1 s2 s1 s0)) else (if (F_X8_isBetter a2 (G_3 I 1 s2 s1 s0) a6) = 0 then (F_X8_duel_122_1 I L a1 a2 a3 a4 a7 a5 a6) else (F_X8_duel_114_1 I L a1 a2 a3 a4 a7 (G_3 I 1 s2 s1 s0)))) else none)
theorem V_X8_duel_91_1  {I : WI} {L : WL} {a1 : Int32} {a2 : Int32} {a3 : Int32} {a4 : Int32} {a7 : Int32} {a5 : Int32} {a6 : Int32} {s0 : Int32} {s1 : Int32} {s2 : Int64} {P : (Int32 × Int32) → Prop} {t : Tg} (hb4 : bz a4 = a4) (hs0 : bz s0 = s0) (hk : ∀ x : (Int32 × Int32), P x → V (zM x_X8_duel 9 0 0 t) 42 [(0, .ref 0), (1, .int a1), (2, .int a2), (3, .int a3), (4, .int a4), (5, .int (p1 x)), (6, .int (p2 x)), (7, .int (a7 + 1))] [] ly0 I L R0 0 0) (kk : oP P (F_X8_duel_91_1 I L a1 a2 a3 a4 a7 a5 a6 s0 s1 s2)) : V (zM x_X8_duel 9 0 0 t) 91 [(0, .ref 0), (1, .int a1), (2, .int a2), (3, .int a3), (4, .int a4), (5, .int a5), (6, .int a6), (7, .int a7)] [.int s0, .int s1, .long s2, .ref 1] ly0 I L R0 0 0 :=
  (if c7 : (Int32.toInt s1) ≤ (3 : Int) then V_cs4 (ct_G3 I L 1 s2 s1 s0 rfl c7) mo_X8_endOfDuel (tat ok_X8_duel_1 (i := 10) (q := 94) rfl rfl) ml_X8_237 ⟨(Nat.le_of_ble_eq_true rfl), (Nat.le_of_ble_eq_true rfl)⟩ ⟨(Nat.le_of_ble_eq_true rfl), (Nat.le_of_ble_eq_true rfl)⟩ (Nat.le_of_ble_eq_true rfl) <|
    V_istore (lv' := [(8, .int (G_3 I 1 s2 s1 s0)), (0, .ref 0), (1, .int a1), (2, .int a2), (3, .int a3), (4, .int a4), (5, .int a5), (6, .int a6), (7, .int a7)]) (tat ok_X8_duel_1 (i := 11) (q := 96) rfl rfl) (Nat.le_of_ble_eq_true rfl) rfl <|
    V_iload (tat ok_X8_duel_1 (i := 12) (q := 98) rfl rfl) 6 rfl <|
    V_bipush (tat ok_X8_duel_1 (i := 13) (q := 100) rfl rfl) bp_8 <|
    V_icmp_eq (tat ok_X8_duel_1 (i := 14) (q := 103) rfl rfl) rfl (fun c8 => V_pick [1, 2, 3, 4, 5, 8, 0] rfl (V_X8_duel_114_1 hb4 hk (jx (P := oP P) kk (Eq.trans (if_pos c7) (if_pos c8))))) (fun c8 => V_iload_n (tat ok_X8_duel_1 (i := 15) (q := 104) rfl rfl) 3 rfl rfl <|
    V_iload (tat ok_X8_duel_1 (i := 16) (q := 106) rfl rfl) 0 rfl <|
    V_iload (tat ok_X8_duel_1 (i := 17) (q := 108) rfl rfl) 7 rfl <|
    V_cs3 (ct_X8_isBetter I L a2 (G_3 I 1 s2 s1 s0) a6 ) mo_X8_isBetter (tat ok_X8_duel_1 (i := 18) (q := 111) rfl rfl) ml_X8_241 ⟨(Nat.le_of_ble_eq_true rfl), (Nat.le_of_ble_eq_true rfl)⟩ ⟨(Nat.le_of_ble_eq_true rfl), (Nat.le_of_ble_eq_true rfl)⟩ (Nat.le_of_ble_eq_true rfl) <|
    V_if_eq (tat ok_X8_duel_1 (i := 19) (q := 114) rfl rfl) rfl (fun c9 => V_pick [1, 2, 3, 4, 5, 6, 7, 8] rfl (V_X8_duel_122_1 hb4 hk (jx (P := oP P) kk (Eq.trans (if_pos c7) (Eq.trans (if_neg c8) (if_pos c9)))))) (fun c9 => V_pick [1, 2, 3, 4, 5, 8, 0] rfl (V_X8_duel_114_1 hb4 hk (jx (P := oP P) kk (Eq.trans (if_pos c7) (Eq.trans (if_neg c8) (if_neg c9))))))) else ((jx (P := oP P) kk (if_neg c7))).elim)
def F_X8_duel_56_1 (I : WI) (L : WL) (a1 : Int32) (a2 : Int32) (a3 : Int32) (a4 : Int32) (a7 : Int32) (a5 : Int32) (a6 : Int32) : Option (Int32 × Int32) :=
  (if a2 = 0 then (F_X8_duel_91_1 I L a1 a2 a3 a4 a7 a5 a6 1 (a1 - 1) ((L 1 3) ^^^ (F_X0_squaresOf I 1 a4 a7))) else (F_X8_duel_91_1 I L a1 a2 a3 a4 a7 a5 a6 0 (a1 - 1) ((L 1 3) ^^^ (F_X0_squaresOf I 1 a4 a7))))
theorem V_X8_duel_56_1  {I : WI} {L : WL} {a1 : Int32} {a2 : Int32} {a3 : Int32} {a4 : Int32} {a7 : Int32} {a5 : Int32} {a6 : Int32} {P : (Int32 × Int32) → Prop} {t : Tg} (hb4 : bz a4 = a4) (hk : ∀ x : (Int32 × Int32), P x → V (zM x_X8_duel 9 0 0 t) 42 [(0, .ref 0), (1, .int a1), (2, .int a2), (3, .int a3), (4, .int a4), (5, .int (p1 x)), (6, .int (p2 x)), (7, .int (a7 + 1))] [] ly0 I L R0 0 0) (kk : oP P (F_X8_duel_56_1 I L a1 a2 a3 a4 a7 a5 a6)) : V (zM x_X8_duel 9 0 0 t) 56 [(0, .ref 0), (1, .int a1), (2, .int a2), (3, .int a3), (4, .int a4), (5, .int a5), (6, .int a6), (7, .int a7)] [] ly0 I L R0 0 0 :=
  V_aload_n (tat ok_X8_duel_0 (i := 31) (q := 57) rfl rfl) 0 rfl rfl <|
    V_getR (tat ok_X8_duel_0 (i := 32) (q := 60) rfl rfl) fk_X8_14 rfl rfl <|
    V_aload_n (tat ok_X8_duel_0 (i := 33) (q := 61) rfl rfl) 0 rfl rfl <|
    V_getR (tat ok_X8_duel_0 (i := 34) (q := 64) rfl rfl) fk_X8_14 rfl rfl <|
    V_getL (tat ok_X8_duel_0 (i := 35) (q := 67) rfl rfl) fk_X8_137 rfl <|
    V_aload_n (tat ok_X8_duel_0 (i := 36) (q := 68) rfl rfl) 0 rfl rfl <|
    V_getR (tat ok_X8_duel_0 (i := 37) (q := 71) rfl rfl) fk_X8_14 rfl rfl <|
    V_iload (tat ok_X8_duel_0 (i := 38) (q := 73) rfl rfl) 4 rfl <|
    V_iload (tat ok_X8_duel_0 (i := 39) (q := 75) rfl rfl) 7 rfl <|
    V_cv2 (ct_X0_squaresOf I L 1 a4 a7 rfl) mo_X0_squaresOf (tat ok_X8_duel_1 (i := 0) (q := 78) rfl rfl) ml_X8_155 rfl ⟨by decide, _, rfl, rfl⟩ ⟨(Nat.le_of_ble_eq_true rfl), (Nat.le_of_ble_eq_true rfl)⟩ ⟨(Nat.le_of_ble_eq_true rfl), (Nat.le_of_ble_eq_true rfl)⟩ (Nat.le_of_ble_eq_true rfl) <|
    V_lxor (tat ok_X8_duel_1 (i := 1) (q := 79) rfl rfl) <|
    V_iload_n (tat ok_X8_duel_1 (i := 2) (q := 80) rfl rfl) 1 rfl rfl <|
    V_iconst (tat ok_X8_duel_1 (i := 3) (q := 81) rfl rfl) ic_1 <|
    V_isub (tat ok_X8_duel_1 (i := 4) (q := 82) rfl rfl) <|
    V_iload_n (tat ok_X8_duel_1 (i := 5) (q := 83) rfl rfl) 2 rfl rfl <|
    V_if_ne (tat ok_X8_duel_1 (i := 6) (q := 86) rfl rfl) rfl (fun c6 => V_iconst (tat ok_X8_duel_1 (i := 9) (q := 91) rfl rfl) ic_0 <|
    V_X8_duel_91_1 hb4 rfl hk (jx (P := oP P) kk (if_neg c6))) (fun c6 => V_iconst (tat ok_X8_duel_1 (i := 7) (q := 87) rfl rfl) ic_1 <|
    V_goto (tat ok_X8_duel_1 (i := 8) (q := 90) rfl rfl) rfl <|
    V_X8_duel_91_1 hb4 rfl hk (jx (P := oP P) kk (if_pos c6)))
def F_X8_duel_186 (I : WI) (L : WL) (a1 : Int32) (a2 : Int32) (a3 : Int32) (s0 : Int32) : Option Int32 :=
  some s0
theorem V_X8_duel_186  {I : WI} {L : WL} {a1 : Int32} {a2 : Int32} {a3 : Int32} {s0 : Int32} {P : Int32 → Prop} {t : Tg} (hr : ∀ v, P v → t = (some (.int v), ly0, I, L, R0)) (kk : oP P (F_X8_duel_186 I L a1 a2 a3 s0)) : V (zM x_X8_duel 9 0 0 t) 186 [(0, .ref 0), (1, .int a1), (2, .int a2), (3, .int a3)] [.int s0] ly0 I L R0 0 0 :=
  V_iret (tat ok_X8_duel_2 (i := 15) (q := 187) rfl rfl) _ rfl (nar_int _) (hr s0 (jx (P := oP P) kk rfl)) ⟨(Nat.le_of_ble_eq_true rfl), (Nat.le_of_ble_eq_true rfl)⟩
def F_X8_duel_175 (I : WI) (L : WL) (a1 : Int32) (a2 : Int32) (a3 : Int32) (a5 : Int32) (a6 : Int32) : Option Int32 :=
  (if a3 = 0 then (F_X8_duel_186 I L a1 a2 a3 a6) else (F_X8_duel_186 I L a1 a2 a3 a5))
theorem V_X8_duel_175  {I : WI} {L : WL} {a1 : Int32} {a2 : Int32} {a3 : Int32} {a5 : Int32} {a6 : Int32} {P : Int32 → Prop} {t : Tg} (hr : ∀ v, P v → t = (some (.int v), ly0, I, L, R0)) (kk : oP P (F_X8_duel_175 I L a1 a2 a3 a5 a6)) : V (zM x_X8_duel 9 0 0 t) 175 [(0, .ref 0), (1, .int a1), (2, .int a2), (3, .int a3), (5, .int a5), (6, .int a6)] [] ly0 I L R0 0 0 :=
  V_iload_n (tat ok_X8_duel_2 (i := 10) (q := 176) rfl rfl) 3 rfl rfl <|
    V_if_ne (tat ok_X8_duel_2 (i := 11) (q := 179) rfl rfl) rfl (fun c13 => V_iload (tat ok_X8_duel_2 (i := 14) (q := 186) rfl rfl) 4 rfl <|
    V_pick [0, 1, 2, 3] rfl (V_X8_duel_186  hr (jx (P := oP P) kk (if_neg c13)))) (fun c13 => V_iload (tat ok_X8_duel_2 (i := 12) (q := 181) rfl rfl) 5 rfl <|
    V_goto (tat ok_X8_duel_2 (i := 13) (q := 184) rfl rfl) rfl <|
    V_pick [0, 1, 2, 3] rfl (V_X8_duel_186  hr (jx (P := oP P) kk (if_pos c13))))
def F_X8_duel_151 (I : WI) (L : WL) (a1 : Int32) (a2 : Int32) (a3 : Int32) (a5 : Int32) (a6 : Int32) (s0 : Int32) (s1 : Int32) (s2 : Int64) : Option Int32 :=
  (if (Int32.toInt s1) ≤ (3 : Int) then (if (F_X8_isBetter a2 (G_3 I 1 s2 s1 s0) a6) = 0 then (F_X8_duel_175 I L a1 a2 a3 a5 a6) else (F_X8_duel_175 I L a1 a2 a3 8 (G_3 I 1 s2 s1 s0))) else none)
theorem V_X8_duel_151  {I : WI} {L : WL} {a1 : Int32} {a2 : Int32} {a3 : Int32} {a5 : Int32} {a6 : Int32} {s0 : Int32} {s1 : Int32} {s2 : Int64} {P : Int32 → Prop} {t : Tg} (hs0 : bz s0 = s0) (hr : ∀ v, P v → t = (some (.int v), ly0, I, L, R0)) (kk : oP P (F_X8_duel_151 I L a1 a2 a3 a5 a6 s0 s1 s2)) : V (zM x_X8_duel 9 0 0 t) 151 [(0, .ref 0), (1, .int a1), (2, .int a2), (3, .int a3), (5, .int a5), (6, .int a6)] [.int s0, .int s1, .long s2, .ref 1] ly0 I L R0 0 0 :=
  (if c11 : (Int32.toInt s1) ≤ (3 : Int) then V_cs4 (ct_G3 I L 1 s2 s1 s0 rfl c11) mo_X8_endOfDuel (tat ok_X8_duel_1 (i := 39) (q := 154) rfl rfl) ml_X8_237 ⟨(Nat.le_of_ble_eq_true rfl), (Nat.le_of_ble_eq_true rfl)⟩ ⟨(Nat.le_of_ble_eq_true rfl), (Nat.le_of_ble_eq_true rfl)⟩ (Nat.le_of_ble_eq_true rfl) <|
    V_istore (lv' := [(7, .int (G_3 I 1 s2 s1 s0)), (0, .ref 0), (1, .int a1), (2, .int a2), (3, .int a3), (5, .int a5), (6, .int a6)]) (tat ok_X8_duel_2 (i := 0) (q := 156) rfl rfl) (Nat.le_of_ble_eq_true rfl) rfl <|
    V_iload_n (tat ok_X8_duel_2 (i := 1) (q := 157) rfl rfl) 3 rfl rfl <|
    V_iload (tat ok_X8_duel_2 (i := 2) (q := 159) rfl rfl) 0 rfl <|
    V_iload (tat ok_X8_duel_2 (i := 3) (q := 161) rfl rfl) 6 rfl <|
    V_cs3 (ct_X8_isBetter I L a2 (G_3 I 1 s2 s1 s0) a6 ) mo_X8_isBetter (tat ok_X8_duel_2 (i := 4) (q := 164) rfl rfl) ml_X8_241 ⟨(Nat.le_of_ble_eq_true rfl), (Nat.le_of_ble_eq_true rfl)⟩ ⟨(Nat.le_of_ble_eq_true rfl), (Nat.le_of_ble_eq_true rfl)⟩ (Nat.le_of_ble_eq_true rfl) <|
    V_if_eq (tat ok_X8_duel_2 (i := 5) (q := 167) rfl rfl) rfl (fun c12 => V_pick [1, 2, 3, 4, 5, 6] rfl (V_X8_duel_175  hr (jx (P := oP P) kk (Eq.trans (if_pos c11) (if_pos c12))))) (fun c12 => V_bipush (tat ok_X8_duel_2 (i := 6) (q := 169) rfl rfl) bp_8 <|
    V_istore (lv' := [(5, .int 8), (7, .int (G_3 I 1 s2 s1 s0)), (0, .ref 0), (1, .int a1), (2, .int a2), (3, .int a3), (6, .int a6)]) (tat ok_X8_duel_2 (i := 7) (q := 171) rfl rfl) (Nat.le_of_ble_eq_true rfl) rfl <|
    V_iload (tat ok_X8_duel_2 (i := 8) (q := 173) rfl rfl) 1 rfl <|
    V_istore (lv' := [(6, .int (G_3 I 1 s2 s1 s0)), (5, .int 8), (7, .int (G_3 I 1 s2 s1 s0)), (0, .ref 0), (1, .int a1), (2, .int a2), (3, .int a3)]) (tat ok_X8_duel_2 (i := 9) (q := 175) rfl rfl) (Nat.le_of_ble_eq_true rfl) rfl <|
    V_pick [3, 4, 5, 6, 1, 0] rfl (V_X8_duel_175  hr (jx (P := oP P) kk (Eq.trans (if_pos c11) (if_neg c12))))) else ((jx (P := oP P) kk (if_neg c11))).elim)
def F_X8_duel_128 (I : WI) (L : WL) (a1 : Int32) (a2 : Int32) (a3 : Int32) (a5 : Int32) (a6 : Int32) : Option Int32 :=
  (if a2 = 0 then (F_X8_duel_151 I L a1 a2 a3 a5 a6 1 (a1 - 1) (L 1 3)) else (F_X8_duel_151 I L a1 a2 a3 a5 a6 0 (a1 - 1) (L 1 3)))
theorem V_X8_duel_128  {I : WI} {L : WL} {a1 : Int32} {a2 : Int32} {a3 : Int32} {a5 : Int32} {a6 : Int32} {P : Int32 → Prop} {t : Tg} (hr : ∀ v, P v → t = (some (.int v), ly0, I, L, R0)) (kk : oP P (F_X8_duel_128 I L a1 a2 a3 a5 a6)) : V (zM x_X8_duel 9 0 0 t) 128 [(0, .ref 0), (1, .int a1), (2, .int a2), (3, .int a3), (5, .int a5), (6, .int a6)] [] ly0 I L R0 0 0 :=
  V_aload_n (tat ok_X8_duel_1 (i := 26) (q := 129) rfl rfl) 0 rfl rfl <|
    V_getR (tat ok_X8_duel_1 (i := 27) (q := 132) rfl rfl) fk_X8_14 rfl rfl <|
    V_aload_n (tat ok_X8_duel_1 (i := 28) (q := 133) rfl rfl) 0 rfl rfl <|
    V_getR (tat ok_X8_duel_1 (i := 29) (q := 136) rfl rfl) fk_X8_14 rfl rfl <|
    V_getL (tat ok_X8_duel_1 (i := 30) (q := 139) rfl rfl) fk_X8_137 rfl <|
    V_iload_n (tat ok_X8_duel_1 (i := 31) (q := 140) rfl rfl) 1 rfl rfl <|
    V_iconst (tat ok_X8_duel_1 (i := 32) (q := 141) rfl rfl) ic_1 <|
    V_isub (tat ok_X8_duel_1 (i := 33) (q := 142) rfl rfl) <|
    V_iload_n (tat ok_X8_duel_1 (i := 34) (q := 143) rfl rfl) 2 rfl rfl <|
    V_if_ne (tat ok_X8_duel_1 (i := 35) (q := 146) rfl rfl) rfl (fun c10 => V_iconst (tat ok_X8_duel_1 (i := 38) (q := 151) rfl rfl) ic_0 <|
    V_X8_duel_151 rfl hr (jx (P := oP P) kk (if_neg c10))) (fun c10 => V_iconst (tat ok_X8_duel_1 (i := 36) (q := 147) rfl rfl) ic_1 <|
    V_goto (tat ok_X8_duel_1 (i := 37) (q := 150) rfl rfl) rfl <|
    V_X8_duel_151 rfl hr (jx (P := oP P) kk (if_pos c10)))
def F_X8_duel_42 (I : WI) (L : WL) (a1 : Int32) (a2 : Int32) (a3 : Int32) (a4 : Int32) (a5 : Int32) (a6 : Int32) (a7 : Int32) : Option Int32 :=
  (frp0 (fun i x => (F_X8_duel_56_1 I L a1 a2 a3 a4 i (p1 x) (p2 x))) (F_X0_linesOf I 1 a4) (fu a7 (F_X0_linesOf I 1 a4)) a7 (a5, a6)).bind (fun q => (F_X8_duel_128 I L a1 a2 a3 (p1 (p2 q)) (p2 (p2 q))))
theorem V_X8_duel_42  {I : WI} {L : WL} {a1 : Int32} {a2 : Int32} {a3 : Int32} {a4 : Int32} {a5 : Int32} {a6 : Int32} {a7 : Int32} {P : Int32 → Prop} {t : Tg} (hb4 : bz a4 = a4) (hb6 : bz a6 = a6) (hb7 : bz a7 = a7) (hr : ∀ v, P v → t = (some (.int v), ly0, I, L, R0)) (kk : oP P (F_X8_duel_42 I L a1 a2 a3 a4 a5 a6 a7)) : V (zM x_X8_duel 9 0 0 t) 42 [(0, .ref 0), (1, .int a1), (2, .int a2), (3, .int a3), (4, .int a4), (5, .int a5), (6, .int a6), (7, .int a7)] [] ly0 I L R0 0 0 :=
  V_frp0 (fun i x => (F_X8_duel_56_1 I L a1 a2 a3 a4 i (p1 x) (p2 x))) (F_X0_linesOf I 1 a4) (fun i x => V (zM x_X8_duel 9 0 0 t) 42 [(0, .ref 0), (1, .int a1), (2, .int a2), (3, .int a3), (4, .int a4), (5, .int (p1 x)), (6, .int (p2 x)), (7, .int i)] [] ly0 I L R0 0 0) (fun i x => oP P ((F_X8_duel_128 I L a1 a2 a3 (p1 x) (p2 x)))) (c := a7) (s := (a5, a6)) (fun i x kx kb => V_iload (tat ok_X8_duel_0 (i := 25) (q := 44) rfl rfl) 7 rfl <|
    V_aload_n (tat ok_X8_duel_0 (i := 26) (q := 45) rfl rfl) 0 rfl rfl <|
    V_getR (tat ok_X8_duel_0 (i := 27) (q := 48) rfl rfl) fk_X8_14 rfl rfl <|
    V_iload (tat ok_X8_duel_0 (i := 28) (q := 50) rfl rfl) 4 rfl <|
    V_cv1 (ct_X0_linesOf I L 1 a4 rfl) mo_X0_linesOf (tat ok_X8_duel_0 (i := 29) (q := 53) rfl rfl) ml_X8_126 rfl ⟨by decide, _, rfl, rfl⟩ ⟨(Nat.le_of_ble_eq_true rfl), (Nat.le_of_ble_eq_true rfl)⟩ ⟨(Nat.le_of_ble_eq_true rfl), (Nat.le_of_ble_eq_true rfl)⟩ (Nat.le_of_ble_eq_true rfl) <|
    V_icmp_ge (tat ok_X8_duel_0 (i := 30) (q := 56) rfl rfl) rfl (fun c0 => V_pick [0, 1, 2, 3, 5, 6] rfl (V_X8_duel_128  hr (kx c0))) (fun c0 => V_X8_duel_56_1 (P := (fun x => (fun i x => V (zM x_X8_duel 9 0 0 t) 42 [(0, .ref 0), (1, .int a1), (2, .int a2), (3, .int a3), (4, .int a4), (5, .int (p1 x)), (6, .int (p2 x)), (7, .int i)] [] ly0 I L R0 0 0) (i + 1) x)) hb4 (fun _ e => e) (kb c0))) (oP_bind (f := fun q => _) kk)
def F_X8_duel_30 (I : WI) (L : WL) (a1 : Int32) (a2 : Int32) (a3 : Int32) (s0 : Int32) : Option Int32 :=
  (F_X8_duel_42 I L a1 a2 a3 s0 8 0 0)
theorem V_X8_duel_30  {I : WI} {L : WL} {a1 : Int32} {a2 : Int32} {a3 : Int32} {s0 : Int32} {P : Int32 → Prop} {t : Tg} (hs0 : bz s0 = s0) (hr : ∀ v, P v → t = (some (.int v), ly0, I, L, R0)) (kk : oP P (F_X8_duel_30 I L a1 a2 a3 s0)) : V (zM x_X8_duel 9 0 0 t) 30 [(0, .ref 0), (1, .int a1), (2, .int a2), (3, .int a3)] [.int s0] ly0 I L R0 0 0 :=
  V_istore (lv' := [(4, .int s0), (0, .ref 0), (1, .int a1), (2, .int a2), (3, .int a3)]) (tat ok_X8_duel_0 (i := 18) (q := 32) rfl rfl) (Nat.le_of_ble_eq_true rfl) rfl <|
    V_bipush (tat ok_X8_duel_0 (i := 19) (q := 34) rfl rfl) bp_8 <|
    V_istore (lv' := [(5, .int 8), (4, .int s0), (0, .ref 0), (1, .int a1), (2, .int a2), (3, .int a3)]) (tat ok_X8_duel_0 (i := 20) (q := 36) rfl rfl) (Nat.le_of_ble_eq_true rfl) rfl <|
    V_iconst (tat ok_X8_duel_0 (i := 21) (q := 37) rfl rfl) ic_0 <|
    V_istore (lv' := [(6, .int 0), (5, .int 8), (4, .int s0), (0, .ref 0), (1, .int a1), (2, .int a2), (3, .int a3)]) (tat ok_X8_duel_0 (i := 22) (q := 39) rfl rfl) (Nat.le_of_ble_eq_true rfl) rfl <|
    V_iconst (tat ok_X8_duel_0 (i := 23) (q := 40) rfl rfl) ic_0 <|
    V_istore (lv' := [(7, .int 0), (6, .int 0), (5, .int 8), (4, .int s0), (0, .ref 0), (1, .int a1), (2, .int a2), (3, .int a3)]) (tat ok_X8_duel_0 (i := 24) (q := 42) rfl rfl) (Nat.le_of_ble_eq_true rfl) rfl <|
    V_pick [4, 5, 6, 7, 3, 2, 1, 0] rfl (V_X8_duel_42 hs0 rfl rfl hr (jx (P := oP P) kk rfl))
def F_X8_duel (I : WI) (L : WL) (a1 : Int32) (a2 : Int32) (a3 : Int32) : Option Int32 :=
  (if a1 < 1 then (F_X8_duel_19 I L a1 a2 a3) else (if 4 < a1 then (F_X8_duel_19 I L a1 a2 a3) else (if a3 < 0 then (F_X8_duel_19 I L a1 a2 a3) else (if a3 ≤ 1 then (if a2 = 0 then (F_X8_duel_30 I L a1 a2 a3 1) else (F_X8_duel_30 I L a1 a2 a3 0)) else (F_X8_duel_19 I L a1 a2 a3)))))
theorem V_X8_duel  {I : WI} {L : WL} {a1 : Int32} {a2 : Int32} {a3 : Int32}  {P : Int32 → Prop} {t : Tg} (hr : ∀ v, P v → t = (some (.int v), ly0, I, L, R0)) (kk : oP P (F_X8_duel I L a1 a2 a3)) : V (zM x_X8_duel 9 0 0 t) 0 [(0, .ref 0), (1, .int a1), (2, .int a2), (3, .int a3)] [] ly0 I L R0 0 0 :=
  V_iload_n (tat ok_X8_duel_0 (i := 0) (q := 1) rfl rfl) 1 rfl rfl <|
    V_iconst (tat ok_X8_duel_0 (i := 1) (q := 2) rfl rfl) ic_1 <|
    V_icmp_lt (tat ok_X8_duel_0 (i := 2) (q := 5) rfl rfl) rfl (fun c1 => V_X8_duel_19  hr (jx (P := oP P) kk (if_pos c1))) (fun c1 => V_iload_n (tat ok_X8_duel_0 (i := 3) (q := 6) rfl rfl) 1 rfl rfl <|
    V_iconst (tat ok_X8_duel_0 (i := 4) (q := 7) rfl rfl) ic_4 <|
    V_icmp_gt (tat ok_X8_duel_0 (i := 5) (q := 10) rfl rfl) rfl (fun c2 => V_X8_duel_19  hr (jx (P := oP P) kk (Eq.trans (if_neg c1) (if_pos c2)))) (fun c2 => V_iload_n (tat ok_X8_duel_0 (i := 6) (q := 11) rfl rfl) 3 rfl rfl <|
    V_if_lt (tat ok_X8_duel_0 (i := 7) (q := 14) rfl rfl) rfl (fun c3 => V_X8_duel_19  hr (jx (P := oP P) kk (Eq.trans (if_neg c1) (Eq.trans (if_neg c2) (if_pos c3))))) (fun c3 => V_iload_n (tat ok_X8_duel_0 (i := 8) (q := 15) rfl rfl) 3 rfl rfl <|
    V_iconst (tat ok_X8_duel_0 (i := 9) (q := 16) rfl rfl) ic_1 <|
    V_icmp_le (tat ok_X8_duel_0 (i := 10) (q := 19) rfl rfl) rfl (fun c4 => V_iload_n (tat ok_X8_duel_0 (i := 13) (q := 22) rfl rfl) 2 rfl rfl <|
    V_if_eq (tat ok_X8_duel_0 (i := 14) (q := 25) rfl rfl) rfl (fun c5 => V_iconst (tat ok_X8_duel_0 (i := 17) (q := 30) rfl rfl) ic_1 <|
    V_X8_duel_30 rfl hr (jx (P := oP P) kk (Eq.trans (if_neg c1) (Eq.trans (if_neg c2) (Eq.trans (if_neg c3) (Eq.trans (if_pos c4) (if_pos c5))))))) (fun c5 => V_iconst (tat ok_X8_duel_0 (i := 15) (q := 26) rfl rfl) ic_0 <|
    V_goto (tat ok_X8_duel_0 (i := 16) (q := 29) rfl rfl) rfl <|
    V_X8_duel_30 rfl hr (jx (P := oP P) kk (Eq.trans (if_neg c1) (Eq.trans (if_neg c2) (Eq.trans (if_neg c3) (Eq.trans (if_pos c4) (if_neg c5)))))))) (fun c4 => V_X8_duel_19  hr (jx (P := oP P) kk (Eq.trans (if_neg c1) (Eq.trans (if_neg c2) (Eq.trans (if_neg c3) (if_neg c4)))))))))
theorem ct_X8_duel  (I : WI) (L : WL) (a1 : Int32) (a2 : Int32) (a3 : Int32)  {v : Int32} (h : (F_X8_duel I L a1 a2 a3) = some v) : Ct x_X8_duel 9 [.ref 0, .int a1, .int a2, .int a3] ly0 I L R0 0 0 (some (.int v), ly0, I, L, R0) :=
  Ct_of_V mo_X8_duel.1 (Nat.le_of_ble_eq_true rfl) (V_X8_duel (P := fun x => x = v)  (fun _ e => by rw [e]) (by rw [h]; exact rfl))
def F_X8_turned_19 (I : WI) (L : WL) (a1 : Int32) (a2 : Int32) : (Int32 × WI) :=
  ((-1), I)
theorem V_X8_turned_19  {I : WI} {L : WL} {a1 : Int32} {a2 : Int32}  {P : (Int32 × WI) → Prop} {t : Tg} (hr : ∀ v, P v → t = (some (.int (p1 v)), ly0, (p2 v), L, R0)) (kk : P (F_X8_turned_19 I L a1 a2)) : V (zM x_X8_turned 7 0 0 t) 19 [(0, .ref 0), (1, .int a1), (2, .int a2)] [] ly0 I L R0 0 0 :=
  V_iconst (tat ok_X8_turned_0 (i := 11) (q := 20) rfl rfl) ic_m1 <|
    V_iret (tat ok_X8_turned_0 (i := 12) (q := 21) rfl rfl) _ rfl (nar_int _) (hr ((-1), I) (jx (P := P) kk rfl)) ⟨(Nat.le_of_ble_eq_true rfl), (Nat.le_of_ble_eq_true rfl)⟩
def F_X8_turned_39 (I : WI) (L : WL) (a1 : Int32) (a2 : Int32) : (Int32 × WI) :=
  ((-2), I)
theorem V_X8_turned_39  {I : WI} {L : WL} {a1 : Int32} {a2 : Int32}  {P : (Int32 × WI) → Prop} {t : Tg} (hr : ∀ v, P v → t = (some (.int (p1 v)), ly0, (p2 v), L, R0)) (kk : P (F_X8_turned_39 I L a1 a2)) : V (zM x_X8_turned 7 0 0 t) 39 [(0, .ref 0), (1, .int a1), (2, .int a2)] [] ly0 I L R0 0 0 :=
  V_bipush (tat ok_X8_turned_0 (i := 21) (q := 41) rfl rfl) bp_m2 <|
    V_iret (tat ok_X8_turned_0 (i := 22) (q := 42) rfl rfl) _ rfl (nar_int _) (hr ((-2), I) (jx (P := P) kk rfl)) ⟨(Nat.le_of_ble_eq_true rfl), (Nat.le_of_ble_eq_true rfl)⟩
def F_X8_turned_92 (I : WI) (L : WL) (a1 : Int32) (a2 : Int32) (s0 : Int32) : (Int32 × WI) :=
  (s0, I)
theorem V_X8_turned_92  {I : WI} {L : WL} {a1 : Int32} {a2 : Int32} {s0 : Int32} {P : (Int32 × WI) → Prop} {t : Tg} (hr : ∀ v, P v → t = (some (.int (p1 v)), ly0, (p2 v), L, R0)) (kk : P (F_X8_turned_92 I L a1 a2 s0)) : V (zM x_X8_turned 7 0 0 t) 92 [(0, .ref 0), (1, .int a1), (2, .int a2)] [.int s0] ly0 I L R0 0 0 :=
  V_iret (tat ok_X8_turned_1 (i := 6) (q := 93) rfl rfl) _ rfl (nar_int _) (hr (s0, I) (jx (P := P) kk rfl)) ⟨(Nat.le_of_ble_eq_true rfl), (Nat.le_of_ble_eq_true rfl)⟩
def F_X8_turned (I : WI) (L : WL) (a1 : Int32) (a2 : Int32) : (Int32 × WI) :=
  (if a1 = 0 then (if a2 < 0 then (F_X8_turned_19 I L a1 a2) else (if a2 ≤ 2 then (if (bz (I 3 0)) = 0 then (F_X8_turned_39 I L a1 a2) else (if (F_X0_sameSize I 3 1) = 0 then (F_X8_turned_39 I L a1 a2) else (if (bz ((F_X7_findPlan I 1 ((L 1 3) ^^^ (L 3 3))) 27 0)) = 0 then (F_X8_turned_92 (F_X7_findPlan I 1 ((L 1 3) ^^^ (L 3 3))) L a1 a2 (-4)) else (F_X8_turned_92 (F_X7_findPlan I 1 ((L 1 3) ^^^ (L 3 3))) L a1 a2 (F_X8_toldOf (F_X7_findPlan I 1 ((L 1 3) ^^^ (L 3 3))) a2 (F_X7_acts (F_X7_findPlan I 1 ((L 1 3) ^^^ (L 3 3))))))))) else (F_X8_turned_19 I L a1 a2))) else (if a1 = 1 then (if a2 < 0 then (F_X8_turned_19 I L a1 a2) else (if a2 ≤ 2 then (if (bz (I 4 0)) = 0 then (F_X8_turned_39 I L a1 a2) else (if (F_X0_sameSize I 4 1) = 0 then (F_X8_turned_39 I L a1 a2) else (if (bz ((F_X7_findPlan I 1 ((L 1 3) ^^^ (L 4 3))) 27 0)) = 0 then (F_X8_turned_92 (F_X7_findPlan I 1 ((L 1 3) ^^^ (L 4 3))) L a1 a2 (-4)) else (F_X8_turned_92 (F_X7_findPlan I 1 ((L 1 3) ^^^ (L 4 3))) L a1 a2 (F_X8_toldOf (F_X7_findPlan I 1 ((L 1 3) ^^^ (L 4 3))) a2 (F_X7_acts (F_X7_findPlan I 1 ((L 1 3) ^^^ (L 4 3))))))))) else (F_X8_turned_19 I L a1 a2))) else (F_X8_turned_19 I L a1 a2)))
theorem V_X8_turned  {I : WI} {L : WL} {a1 : Int32} {a2 : Int32}  {P : (Int32 × WI) → Prop} {t : Tg} (hr : ∀ v, P v → t = (some (.int (p1 v)), ly0, (p2 v), L, R0)) (kk : P (F_X8_turned I L a1 a2)) : V (zM x_X8_turned 7 0 0 t) 0 [(0, .ref 0), (1, .int a1), (2, .int a2)] [] ly0 I L R0 0 0 :=
  V_aload_n (tat ok_X8_turned_0 (i := 0) (q := 1) rfl rfl) 0 rfl rfl <|
    V_iload_n (tat ok_X8_turned_0 (i := 1) (q := 2) rfl rfl) 1 rfl rfl <|
    (if c1 : a1 = 0 then V_cv1 (ct_img0 I L a1 c1) mo_X8_imageOf (tat ok_X8_turned_0 (i := 2) (q := 5) rfl rfl) ml_X8_183 rfl ⟨by decide, _, rfl, rfl⟩ ⟨(Nat.le_of_ble_eq_true rfl), (Nat.le_of_ble_eq_true rfl)⟩ ⟨(Nat.le_of_ble_eq_true rfl), (Nat.le_of_ble_eq_true rfl)⟩ (Nat.le_of_ble_eq_true rfl) <|
    V_astore_n (lv' := [(3, .ref 3), (0, .ref 0), (1, .int a1), (2, .int a2)]) (tat ok_X8_turned_0 (i := 3) (q := 6) rfl rfl) rfl (by decide) (Nat.le_of_ble_eq_true rfl) rfl <|
    V_aload_n (tat ok_X8_turned_0 (i := 4) (q := 7) rfl rfl) 0 rfl rfl <|
    V_ifnull (tat ok_X8_turned_0 (i := 5) (q := 10) rfl rfl) (by decide) <|
    V_iload_n (tat ok_X8_turned_0 (i := 6) (q := 11) rfl rfl) 3 rfl rfl <|
    V_if_lt (tat ok_X8_turned_0 (i := 7) (q := 14) rfl rfl) rfl (fun c3 => V_pick [1, 2, 3] rfl (V_X8_turned_19  hr (jx (P := P) kk (Eq.trans (if_pos c1) (if_pos c3))))) (fun c3 => V_iload_n (tat ok_X8_turned_0 (i := 8) (q := 15) rfl rfl) 3 rfl rfl <|
    V_iconst (tat ok_X8_turned_0 (i := 9) (q := 16) rfl rfl) ic_2 <|
    V_icmp_le (tat ok_X8_turned_0 (i := 10) (q := 19) rfl rfl) rfl (fun c4 => V_aload_n (tat ok_X8_turned_0 (i := 13) (q := 22) rfl rfl) 0 rfl rfl <|
    V_getZ (tat ok_X8_turned_0 (i := 14) (q := 25) rfl rfl) fk_X8_106 rfl <|
    V_if_eq (tat ok_X8_turned_0 (i := 15) (q := 28) rfl rfl) rfl (fun c5 => V_pick [1, 2, 3] rfl (V_X8_turned_39  hr (jx (P := P) kk (Eq.trans (if_pos c1) (Eq.trans (if_neg c3) (Eq.trans (if_pos c4) (if_pos c5))))))) (fun c5 => V_aload_n (tat ok_X8_turned_0 (i := 16) (q := 29) rfl rfl) 0 rfl rfl <|
    V_aload_n (tat ok_X8_turned_0 (i := 17) (q := 30) rfl rfl) 1 rfl rfl <|
    V_getR (tat ok_X8_turned_0 (i := 18) (q := 33) rfl rfl) fk_X8_14 rfl rfl <|
    V_cv1 (ct_X0_sameSize I L 3 1 rfl rfl) mo_X0_sameSize (tat ok_X8_turned_0 (i := 19) (q := 36) rfl rfl) ml_X8_187 rfl ⟨by decide, _, rfl, rfl⟩ ⟨(Nat.le_of_ble_eq_true rfl), (Nat.le_of_ble_eq_true rfl)⟩ ⟨(Nat.le_of_ble_eq_true rfl), (Nat.le_of_ble_eq_true rfl)⟩ (Nat.le_of_ble_eq_true rfl) <|
    V_if_ne (tat ok_X8_turned_0 (i := 20) (q := 39) rfl rfl) rfl (fun c6 => V_aload_n (tat ok_X8_turned_0 (i := 23) (q := 43) rfl rfl) 1 rfl rfl <|
    V_getR (tat ok_X8_turned_0 (i := 24) (q := 46) rfl rfl) fk_X8_63 rfl rfl <|
    V_aload_n (tat ok_X8_turned_0 (i := 25) (q := 47) rfl rfl) 1 rfl rfl <|
    V_getR (tat ok_X8_turned_0 (i := 26) (q := 50) rfl rfl) fk_X8_14 rfl rfl <|
    V_aload_n (tat ok_X8_turned_0 (i := 27) (q := 51) rfl rfl) 1 rfl rfl <|
    V_getR (tat ok_X8_turned_0 (i := 28) (q := 54) rfl rfl) fk_X8_14 rfl rfl <|
    V_getL (tat ok_X8_turned_0 (i := 29) (q := 57) rfl rfl) fk_X8_137 rfl <|
    V_aload_n (tat ok_X8_turned_0 (i := 30) (q := 58) rfl rfl) 0 rfl rfl <|
    V_getL (tat ok_X8_turned_0 (i := 31) (q := 61) rfl rfl) fk_X8_137 rfl <|
    V_lxor (tat ok_X8_turned_0 (i := 32) (q := 62) rfl rfl) <|
    V_cv2v (ct_X7_findPlan I L 1 ((L 1 3) ^^^ (L 3 3)) rfl) mo_X7_findPlan (tat ok_X8_turned_0 (i := 33) (q := 65) rfl rfl) ml_X8_191 rfl ⟨by decide, _, rfl, rfl⟩ ⟨(Nat.le_of_ble_eq_true rfl), (Nat.le_of_ble_eq_true rfl)⟩ ⟨(Nat.le_of_ble_eq_true rfl), (Nat.le_of_ble_eq_true rfl)⟩ (Nat.le_of_ble_eq_true rfl) <|
    V_aload_n (tat ok_X8_turned_0 (i := 34) (q := 66) rfl rfl) 1 rfl rfl <|
    V_getR (tat ok_X8_turned_0 (i := 35) (q := 69) rfl rfl) fk_X8_63 rfl rfl <|
    V_getZ (tat ok_X8_turned_0 (i := 36) (q := 72) rfl rfl) fk_X8_195 rfl <|
    V_if_eq (tat ok_X8_turned_0 (i := 37) (q := 75) rfl rfl) rfl (fun c7 => V_bipush (tat ok_X8_turned_1 (i := 5) (q := 92) rfl rfl) bp_m4 <|
    V_pick [1, 2, 3] rfl (V_X8_turned_92  hr (jx (P := P) kk (Eq.trans (if_pos c1) (Eq.trans (if_neg c3) (Eq.trans (if_pos c4) (Eq.trans (if_neg c5) (Eq.trans (if_neg c6) (if_pos c7))))))))) (fun c7 => V_aload_n (tat ok_X8_turned_0 (i := 38) (q := 76) rfl rfl) 1 rfl rfl <|
    V_iload_n (tat ok_X8_turned_0 (i := 39) (q := 77) rfl rfl) 3 rfl rfl <|
    V_aload_n (tat ok_X8_turned_1 (i := 0) (q := 78) rfl rfl) 1 rfl rfl <|
    V_getR (tat ok_X8_turned_1 (i := 1) (q := 81) rfl rfl) fk_X8_63 rfl rfl <|
    V_cv0 (ct_X7_acts (F_X7_findPlan I 1 ((L 1 3) ^^^ (L 3 3))) L  ) mo_X7_acts (tat ok_X8_turned_1 (i := 2) (q := 84) rfl rfl) ml_X8_214 rfl ⟨by decide, _, rfl, rfl⟩ ⟨(Nat.le_of_ble_eq_true rfl), (Nat.le_of_ble_eq_true rfl)⟩ ⟨(Nat.le_of_ble_eq_true rfl), (Nat.le_of_ble_eq_true rfl)⟩ (Nat.le_of_ble_eq_true rfl) <|
    V_cv2 (ct_X8_toldOf (F_X7_findPlan I 1 ((L 1 3) ^^^ (L 3 3))) L a2 (F_X7_acts (F_X7_findPlan I 1 ((L 1 3) ^^^ (L 3 3)))) ) mo_X8_toldOf (tat ok_X8_turned_1 (i := 3) (q := 87) rfl rfl) ml_X8_217 rfl ⟨by decide, _, rfl, rfl⟩ ⟨(Nat.le_of_ble_eq_true rfl), (Nat.le_of_ble_eq_true rfl)⟩ ⟨(Nat.le_of_ble_eq_true rfl), (Nat.le_of_ble_eq_true rfl)⟩ (Nat.le_of_ble_eq_true rfl) <|
    V_goto (tat ok_X8_turned_1 (i := 4) (q := 90) rfl rfl) rfl <|
    V_pick [1, 2, 3] rfl (V_X8_turned_92  hr (jx (P := P) kk (Eq.trans (if_pos c1) (Eq.trans (if_neg c3) (Eq.trans (if_pos c4) (Eq.trans (if_neg c5) (Eq.trans (if_neg c6) (if_neg c7)))))))))) (fun c6 => V_pick [1, 2, 3] rfl (V_X8_turned_39  hr (jx (P := P) kk (Eq.trans (if_pos c1) (Eq.trans (if_neg c3) (Eq.trans (if_pos c4) (Eq.trans (if_neg c5) (if_pos c6)))))))))) (fun c4 => V_pick [1, 2, 3] rfl (V_X8_turned_19  hr (jx (P := P) kk (Eq.trans (if_pos c1) (Eq.trans (if_neg c3) (if_neg c4))))))) else (if c2 : a1 = 1 then V_cv1 (ct_img1 I L a1 c2) mo_X8_imageOf (tat ok_X8_turned_0 (i := 2) (q := 5) rfl rfl) ml_X8_183 rfl ⟨by decide, _, rfl, rfl⟩ ⟨(Nat.le_of_ble_eq_true rfl), (Nat.le_of_ble_eq_true rfl)⟩ ⟨(Nat.le_of_ble_eq_true rfl), (Nat.le_of_ble_eq_true rfl)⟩ (Nat.le_of_ble_eq_true rfl) <|
    V_astore_n (lv' := [(3, .ref 4), (0, .ref 0), (1, .int a1), (2, .int a2)]) (tat ok_X8_turned_0 (i := 3) (q := 6) rfl rfl) rfl (by decide) (Nat.le_of_ble_eq_true rfl) rfl <|
    V_aload_n (tat ok_X8_turned_0 (i := 4) (q := 7) rfl rfl) 0 rfl rfl <|
    V_ifnull (tat ok_X8_turned_0 (i := 5) (q := 10) rfl rfl) (by decide) <|
    V_iload_n (tat ok_X8_turned_0 (i := 6) (q := 11) rfl rfl) 3 rfl rfl <|
    V_if_lt (tat ok_X8_turned_0 (i := 7) (q := 14) rfl rfl) rfl (fun c8 => V_pick [1, 2, 3] rfl (V_X8_turned_19  hr (jx (P := P) kk (Eq.trans (if_neg c1) (Eq.trans (if_pos c2) (if_pos c8)))))) (fun c8 => V_iload_n (tat ok_X8_turned_0 (i := 8) (q := 15) rfl rfl) 3 rfl rfl <|
    V_iconst (tat ok_X8_turned_0 (i := 9) (q := 16) rfl rfl) ic_2 <|
    V_icmp_le (tat ok_X8_turned_0 (i := 10) (q := 19) rfl rfl) rfl (fun c9 => V_aload_n (tat ok_X8_turned_0 (i := 13) (q := 22) rfl rfl) 0 rfl rfl <|
    V_getZ (tat ok_X8_turned_0 (i := 14) (q := 25) rfl rfl) fk_X8_106 rfl <|
    V_if_eq (tat ok_X8_turned_0 (i := 15) (q := 28) rfl rfl) rfl (fun c10 => V_pick [1, 2, 3] rfl (V_X8_turned_39  hr (jx (P := P) kk (Eq.trans (if_neg c1) (Eq.trans (if_pos c2) (Eq.trans (if_neg c8) (Eq.trans (if_pos c9) (if_pos c10)))))))) (fun c10 => V_aload_n (tat ok_X8_turned_0 (i := 16) (q := 29) rfl rfl) 0 rfl rfl <|
    V_aload_n (tat ok_X8_turned_0 (i := 17) (q := 30) rfl rfl) 1 rfl rfl <|
    V_getR (tat ok_X8_turned_0 (i := 18) (q := 33) rfl rfl) fk_X8_14 rfl rfl <|
    V_cv1 (ct_X0_sameSize I L 4 1 rfl rfl) mo_X0_sameSize (tat ok_X8_turned_0 (i := 19) (q := 36) rfl rfl) ml_X8_187 rfl ⟨by decide, _, rfl, rfl⟩ ⟨(Nat.le_of_ble_eq_true rfl), (Nat.le_of_ble_eq_true rfl)⟩ ⟨(Nat.le_of_ble_eq_true rfl), (Nat.le_of_ble_eq_true rfl)⟩ (Nat.le_of_ble_eq_true rfl) <|
    V_if_ne (tat ok_X8_turned_0 (i := 20) (q := 39) rfl rfl) rfl (fun c11 => V_aload_n (tat ok_X8_turned_0 (i := 23) (q := 43) rfl rfl) 1 rfl rfl <|
    V_getR (tat ok_X8_turned_0 (i := 24) (q := 46) rfl rfl) fk_X8_63 rfl rfl <|
    V_aload_n (tat ok_X8_turned_0 (i := 25) (q := 47) rfl rfl) 1 rfl rfl <|
    V_getR (tat ok_X8_turned_0 (i := 26) (q := 50) rfl rfl) fk_X8_14 rfl rfl <|
    V_aload_n (tat ok_X8_turned_0 (i := 27) (q := 51) rfl rfl) 1 rfl rfl <|
    V_getR (tat ok_X8_turned_0 (i := 28) (q := 54) rfl rfl) fk_X8_14 rfl rfl <|
    V_getL (tat ok_X8_turned_0 (i := 29) (q := 57) rfl rfl) fk_X8_137 rfl <|
    V_aload_n (tat ok_X8_turned_0 (i := 30) (q := 58) rfl rfl) 0 rfl rfl <|
    V_getL (tat ok_X8_turned_0 (i := 31) (q := 61) rfl rfl) fk_X8_137 rfl <|
    V_lxor (tat ok_X8_turned_0 (i := 32) (q := 62) rfl rfl) <|
    V_cv2v (ct_X7_findPlan I L 1 ((L 1 3) ^^^ (L 4 3)) rfl) mo_X7_findPlan (tat ok_X8_turned_0 (i := 33) (q := 65) rfl rfl) ml_X8_191 rfl ⟨by decide, _, rfl, rfl⟩ ⟨(Nat.le_of_ble_eq_true rfl), (Nat.le_of_ble_eq_true rfl)⟩ ⟨(Nat.le_of_ble_eq_true rfl), (Nat.le_of_ble_eq_true rfl)⟩ (Nat.le_of_ble_eq_true rfl) <|
    V_aload_n (tat ok_X8_turned_0 (i := 34) (q := 66) rfl rfl) 1 rfl rfl <|
    V_getR (tat ok_X8_turned_0 (i := 35) (q := 69) rfl rfl) fk_X8_63 rfl rfl <|
    V_getZ (tat ok_X8_turned_0 (i := 36) (q := 72) rfl rfl) fk_X8_195 rfl <|
    V_if_eq (tat ok_X8_turned_0 (i := 37) (q := 75) rfl rfl) rfl (fun c12 => V_bipush (tat ok_X8_turned_1 (i := 5) (q := 92) rfl rfl) bp_m4 <|
    V_pick [1, 2, 3] rfl (V_X8_turned_92  hr (jx (P := P) kk (Eq.trans (if_neg c1) (Eq.trans (if_pos c2) (Eq.trans (if_neg c8) (Eq.trans (if_pos c9) (Eq.trans (if_neg c10) (Eq.trans (if_neg c11) (if_pos c12)))))))))) (fun c12 => V_aload_n (tat ok_X8_turned_0 (i := 38) (q := 76) rfl rfl) 1 rfl rfl <|
    V_iload_n (tat ok_X8_turned_0 (i := 39) (q := 77) rfl rfl) 3 rfl rfl <|
    V_aload_n (tat ok_X8_turned_1 (i := 0) (q := 78) rfl rfl) 1 rfl rfl <|
    V_getR (tat ok_X8_turned_1 (i := 1) (q := 81) rfl rfl) fk_X8_63 rfl rfl <|
    V_cv0 (ct_X7_acts (F_X7_findPlan I 1 ((L 1 3) ^^^ (L 4 3))) L  ) mo_X7_acts (tat ok_X8_turned_1 (i := 2) (q := 84) rfl rfl) ml_X8_214 rfl ⟨by decide, _, rfl, rfl⟩ ⟨(Nat.le_of_ble_eq_true rfl), (Nat.le_of_ble_eq_true rfl)⟩ ⟨(Nat.le_of_ble_eq_true rfl), (Nat.le_of_ble_eq_true rfl)⟩ (Nat.le_of_ble_eq_true rfl) <|
    V_cv2 (ct_X8_toldOf (F_X7_findPlan I 1 ((L 1 3) ^^^ (L 4 3))) L a2 (F_X7_acts (F_X7_findPlan I 1 ((L 1 3) ^^^ (L 4 3)))) ) mo_X8_toldOf (tat ok_X8_turned_1 (i := 3) (q := 87) rfl rfl) ml_X8_217 rfl ⟨by decide, _, rfl, rfl⟩ ⟨(Nat.le_of_ble_eq_true rfl), (Nat.le_of_ble_eq_true rfl)⟩ ⟨(Nat.le_of_ble_eq_true rfl), (Nat.le_of_ble_eq_true rfl)⟩ (Nat.le_of_ble_eq_true rfl) <|
    V_goto (tat ok_X8_turned_1 (i := 4) (q := 90) rfl rfl) rfl <|
    V_pick [1, 2, 3] rfl (V_X8_turned_92  hr (jx (P := P) kk (Eq.trans (if_neg c1) (Eq.trans (if_pos c2) (Eq.trans (if_neg c8) (Eq.trans (if_pos c9) (Eq.trans (if_neg c10) (Eq.trans (if_neg c11) (if_neg c12))))))))))) (fun c11 => V_pick [1, 2, 3] rfl (V_X8_turned_39  hr (jx (P := P) kk (Eq.trans (if_neg c1) (Eq.trans (if_pos c2) (Eq.trans (if_neg c8) (Eq.trans (if_pos c9) (Eq.trans (if_neg c10) (if_pos c11))))))))))) (fun c9 => V_pick [1, 2, 3] rfl (V_X8_turned_19  hr (jx (P := P) kk (Eq.trans (if_neg c1) (Eq.trans (if_pos c2) (Eq.trans (if_neg c8) (if_neg c9)))))))) else V_cv1 (ct_imgN I L a1 c1 c2) mo_X8_imageOf (tat ok_X8_turned_0 (i := 2) (q := 5) rfl rfl) ml_X8_183 rfl ⟨by decide, _, rfl, rfl⟩ ⟨(Nat.le_of_ble_eq_true rfl), (Nat.le_of_ble_eq_true rfl)⟩ ⟨(Nat.le_of_ble_eq_true rfl), (Nat.le_of_ble_eq_true rfl)⟩ (Nat.le_of_ble_eq_true rfl) <|
    V_astoreN_n (lv' := [(3, .null), (0, .ref 0), (1, .int a1), (2, .int a2)]) (tat ok_X8_turned_0 (i := 3) (q := 6) rfl rfl) rfl (Nat.le_of_ble_eq_true rfl) rfl <|
    V_aloadN_n (tat ok_X8_turned_0 (i := 4) (q := 7) rfl rfl) 0 rfl rfl <|
    V_ifnullN (tat ok_X8_turned_0 (i := 5) (q := 10) rfl rfl) rfl <|
    V_pick [1, 2, 3] rfl (V_X8_turned_19  hr (jx (P := P) kk (Eq.trans (if_neg c1) (if_neg c2))))))
