def F_X8_independentLines_145 (I : WI) (L : WL) (a1 : Int32) (a2 : Int32) : Option (Int32 × WL) :=
  some (a2, L)
theorem V_X8_independentLines_145  {I : WI} {L : WL} {a1 : Int32} {a2 : Int32} {P : (Int32 × WL) → Prop} {t : Tg} (hr : ∀ v, P v → t = (some (.int (p1 v)), ly0, I, (p2 v), R0)) (kk : oP P (F_X8_independentLines_145 I L a1 a2)) : V (zM x_X8_independentLines 4 0 0 t) 145 [(0, .ref 0), (1, .int a1), (2, .int a2)] [] ly0 I L R0 0 0 :=
  V_iload_n (tat ok_X8_independentLines_1 (i := 38) (q := 146) rfl rfl) 2 rfl rfl <|
    V_iret (tat ok_X8_independentLines_1 (i := 39) (q := 147) rfl rfl) _ rfl (nar_int _) (hr (a2, L) (jx (P := oP P) kk rfl)) ⟨(Nat.le_of_ble_eq_true rfl), (Nat.le_of_ble_eq_true rfl)⟩
def F_X8_independentLines_4 (I : WI) (L : WL) (a1 : Int32) (a2 : Int32) (a3 : Int32) : Option (Int32 × WL) :=
  (lpp (fun x => (F_X8_independentLines_4_1 I (p2 (p2 x)) a1 (p1 x) (p1 (p2 x)))) 4294967296 (a2, a3, L)).bind (fun q => (F_X8_independentLines_145 I (p2 q) a1 (p1 q)))
theorem V_X8_independentLines_4  {I : WI} {L : WL} {a1 : Int32} {a2 : Int32} {a3 : Int32} {P : (Int32 × WL) → Prop} {t : Tg} (hb2 : bz a2 = a2) (hb3 : bz a3 = a3) (hr : ∀ v, P v → t = (some (.int (p1 v)), ly0, I, (p2 v), R0)) (kk : oP P (F_X8_independentLines_4 I L a1 a2 a3)) : V (zM x_X8_independentLines 4 0 0 t) 4 [(0, .ref 0), (1, .int a1), (2, .int a2), (3, .int a3)] [] ly0 I L R0 0 0 :=
  V_lpp (fun x => (F_X8_independentLines_4_1 I (p2 (p2 x)) a1 (p1 x) (p1 (p2 x)))) (fun x => V (zM x_X8_independentLines 4 0 0 t) 4 [(0, .ref 0), (1, .int a1), (2, .int (p1 x)), (3, .int (p1 (p2 x)))] [] ly0 I (p2 (p2 x)) R0 0 0) (fun x => oP P ((F_X8_independentLines_145 I (p2 x) a1 (p1 x)))) (s := (a2, a3, L)) (fun x e0 => V_X8_independentLines_4_1 (P := Sum.elim (fun x => oP P ((F_X8_independentLines_145 I (p2 x) a1 (p1 x)))) (fun x => V (zM x_X8_independentLines 4 0 0 t) 4 [(0, .ref 0), (1, .int a1), (2, .int (p1 x)), (3, .int (p1 (p2 x)))] [] ly0 I (p2 (p2 x)) R0 0 0))  (fun x e => V_X8_independentLines_145  hr e) (fun _ e => e) e0) (oP_bind (f := fun q => _) kk)
def F_X8_independentLines (I : WI) (L : WL) (a1 : Int32) : Option (Int32 × WL) :=
  (F_X8_independentLines_4 I L a1 0 0)
theorem V_X8_independentLines  {I : WI} {L : WL} {a1 : Int32}  {P : (Int32 × WL) → Prop} {t : Tg} (hr : ∀ v, P v → t = (some (.int (p1 v)), ly0, I, (p2 v), R0)) (kk : oP P (F_X8_independentLines I L a1)) : V (zM x_X8_independentLines 4 0 0 t) 0 [(0, .ref 0), (1, .int a1)] [] ly0 I L R0 0 0 :=
  V_iconst (tat ok_X8_independentLines_0 (i := 0) (q := 1) rfl rfl) ic_0 <|
    V_istore_n (lv' := [(2, .int 0), (0, .ref 0), (1, .int a1)]) (tat ok_X8_independentLines_0 (i := 1) (q := 2) rfl rfl) rfl (Nat.le_of_ble_eq_true rfl) rfl <|
    V_iconst (tat ok_X8_independentLines_0 (i := 2) (q := 3) rfl rfl) ic_0 <|
    V_istore_n (lv' := [(3, .int 0), (2, .int 0), (0, .ref 0), (1, .int a1)]) (tat ok_X8_independentLines_0 (i := 3) (q := 4) rfl rfl) rfl (Nat.le_of_ble_eq_true rfl) rfl <|
    V_pick [2, 3, 1, 0] rfl (V_X8_independentLines_4 rfl rfl hr (jx (P := oP P) kk rfl))
theorem ct_X8_independentLines  (I : WI) (L : WL) (a1 : Int32)  {v : (Int32 × WL)} (h : (F_X8_independentLines I L a1) = some v) : Ct x_X8_independentLines 4 [.ref 0, .int a1] ly0 I L R0 0 0 (some (.int (p1 v)), ly0, I, (p2 v), R0) :=
  Ct_of_V mo_X8_independentLines.1 (Nat.le_of_ble_eq_true rfl) (V_X8_independentLines (P := fun x => x = v)  (fun _ e => by rw [e]) (by rw [h]; exact rfl))
def F_X8_power_24 (I : WI) (L : WL) (a1 : Int32) (s0 : Int32) : Option (Int32 × WL) :=
  some (s0, L)
theorem V_X8_power_24  {I : WI} {L : WL} {a1 : Int32} {s0 : Int32} {P : (Int32 × WL) → Prop} {t : Tg} (hr : ∀ v, P v → t = (some (.int (p1 v)), ly0, I, (p2 v), R0)) (kk : oP P (F_X8_power_24 I L a1 s0)) : V (zM x_X8_power 5 0 0 t) 24 [(0, .ref 0), (1, .int a1)] [.int s0] ly0 I L R0 0 0 :=
  V_iret (tat ok_X8_power_0 (i := 14) (q := 25) rfl rfl) _ rfl (nar_int _) (hr (s0, L) (jx (P := oP P) kk rfl)) ⟨(Nat.le_of_ble_eq_true rfl), (Nat.le_of_ble_eq_true rfl)⟩
def F_X8_power (I : WI) (L : WL) (a1 : Int32) : Option (Int32 × WL) :=
  (if a1 = 0 then (Option.bind (F_X8_independentLines I L 1) (fun v2 => some ((p1 v2), (p2 v2)))) else (if a1 = 1 then (Option.bind (F_X8_independentLines I L 2) (fun v4 => (F_X8_power_24 I (p2 v4) a1 (p1 v4)))) else (F_X8_power_24 I L a1 (-1))))
theorem V_X8_power  {I : WI} {L : WL} {a1 : Int32}  {P : (Int32 × WL) → Prop} {t : Tg} (hr : ∀ v, P v → t = (some (.int (p1 v)), ly0, I, (p2 v), R0)) (kk : oP P (F_X8_power I L a1)) : V (zM x_X8_power 5 0 0 t) 0 [(0, .ref 0), (1, .int a1)] [] ly0 I L R0 0 0 :=
  V_iload_n (tat ok_X8_power_0 (i := 0) (q := 1) rfl rfl) 1 rfl rfl <|
    V_if_ne (tat ok_X8_power_0 (i := 1) (q := 4) rfl rfl) rfl (fun c1 => V_iload_n (tat ok_X8_power_0 (i := 6) (q := 11) rfl rfl) 1 rfl rfl <|
    V_iconst (tat ok_X8_power_0 (i := 7) (q := 12) rfl rfl) ic_1 <|
    V_icmp_ne (tat ok_X8_power_0 (i := 8) (q := 15) rfl rfl) rfl (fun c3 => V_iconst (tat ok_X8_power_0 (i := 13) (q := 24) rfl rfl) ic_m1 <|
    V_X8_power_24  hr (jx (P := oP P) kk (Eq.trans (if_neg c1) (if_neg c3)))) (fun c3 => V_aload_n (tat ok_X8_power_0 (i := 9) (q := 16) rfl rfl) 0 rfl rfl <|
    V_iconst (tat ok_X8_power_0 (i := 10) (q := 17) rfl rfl) ic_2 <|
    oP_case (jx (P := oP P) kk (Eq.trans (if_neg c1) (if_pos c3))) (fun v4 e4 _ => V_cv1 (ct_X8_independentLines I L 2  e4) mo_X8_independentLines (tat ok_X8_power_0 (i := 11) (q := 20) rfl rfl) ml_X8_234 rfl ⟨by decide, _, rfl, rfl⟩ ⟨(Nat.le_of_ble_eq_true rfl), (Nat.le_of_ble_eq_true rfl)⟩ ⟨(Nat.le_of_ble_eq_true rfl), (Nat.le_of_ble_eq_true rfl)⟩ (Nat.le_of_ble_eq_true rfl) <|
    V_goto (tat ok_X8_power_0 (i := 12) (q := 23) rfl rfl) rfl <|
    V_X8_power_24  hr (jx (P := oP P) kk (Eq.trans (if_neg c1) (Eq.trans (if_pos c3) (ob e4))))))) (fun c1 => V_aload_n (tat ok_X8_power_0 (i := 2) (q := 5) rfl rfl) 0 rfl rfl <|
    V_iconst (tat ok_X8_power_0 (i := 3) (q := 6) rfl rfl) ic_1 <|
    oP_case (jx (P := oP P) kk (if_pos c1)) (fun v2 e2 _ => V_cv1 (ct_X8_independentLines I L 1  e2) mo_X8_independentLines (tat ok_X8_power_0 (i := 4) (q := 9) rfl rfl) ml_X8_234 rfl ⟨by decide, _, rfl, rfl⟩ ⟨(Nat.le_of_ble_eq_true rfl), (Nat.le_of_ble_eq_true rfl)⟩ ⟨(Nat.le_of_ble_eq_true rfl), (Nat.le_of_ble_eq_true rfl)⟩ (Nat.le_of_ble_eq_true rfl) <|
    V_iret (tat ok_X8_power_0 (i := 5) (q := 10) rfl rfl) _ rfl (nar_int _) (hr ((p1 v2), (p2 v2)) (jx (P := oP P) kk (Eq.trans (if_pos c1) (ob e2)))) ⟨(Nat.le_of_ble_eq_true rfl), (Nat.le_of_ble_eq_true rfl)⟩))
theorem ct_X8_power  (I : WI) (L : WL) (a1 : Int32)  {v : (Int32 × WL)} (h : (F_X8_power I L a1) = some v) : Ct x_X8_power 5 [.ref 0, .int a1] ly0 I L R0 0 0 (some (.int (p1 v)), ly0, I, (p2 v), R0) :=
  Ct_of_V mo_X8_power.1 (Nat.le_of_ble_eq_true rfl) (V_X8_power (P := fun x => x = v)  (fun _ e => by rw [e]) (by rw [h]; exact rfl))
def F_X8_isBetter_27 (a0 : Int32) (a1 : Int32) (a2 : Int32) (s0 : Int32) : Int32 :=
  s0
theorem V_X8_isBetter_27  {I : WI} {L : WL} {a0 : Int32} {a1 : Int32} {a2 : Int32} {s0 : Int32} {P : Int32 → Prop} {t : Tg} (hs0 : bz s0 = s0) (hr : ∀ v, P v → t = (some (.int v), ly0, I, L, R0)) (kk : P (F_X8_isBetter_27 a0 a1 a2 s0)) : V (zM x_X8_isBetter 1 0 0 t) 27 [(0, .int a0), (1, .int a1), (2, .int a2)] [.int s0] ly0 I L R0 0 0 :=
  V_iret (tat ok_X8_isBetter_0 (i := 15) (q := 28) rfl rfl) _ rfl (bz_nf hs0).1 (hr s0 (jx (P := P) kk rfl)) ⟨(Nat.le_of_ble_eq_true rfl), (Nat.le_of_ble_eq_true rfl)⟩
def F_X8_isBetter (a0 : Int32) (a1 : Int32) (a2 : Int32) : Int32 :=
  (if a0 = 0 then (if a2 ≤ a1 then (F_X8_isBetter_27 a0 a1 a2 0) else (F_X8_isBetter_27 a0 a1 a2 1)) else (if a1 ≤ a2 then (F_X8_isBetter_27 a0 a1 a2 0) else (F_X8_isBetter_27 a0 a1 a2 1)))
theorem V_X8_isBetter  {I : WI} {L : WL} {a0 : Int32} {a1 : Int32} {a2 : Int32}  {P : Int32 → Prop} {t : Tg} (hr : ∀ v, P v → t = (some (.int v), ly0, I, L, R0)) (kk : P (F_X8_isBetter a0 a1 a2)) : V (zM x_X8_isBetter 1 0 0 t) 0 [(0, .int a0), (1, .int a1), (2, .int a2)] [] ly0 I L R0 0 0 :=
  V_iload_n (tat ok_X8_isBetter_0 (i := 0) (q := 1) rfl rfl) 0 rfl rfl <|
    V_if_eq (tat ok_X8_isBetter_0 (i := 1) (q := 4) rfl rfl) rfl (fun c1 => V_iload_n (tat ok_X8_isBetter_0 (i := 9) (q := 18) rfl rfl) 1 rfl rfl <|
    V_iload_n (tat ok_X8_isBetter_0 (i := 10) (q := 19) rfl rfl) 2 rfl rfl <|
    V_icmp_ge (tat ok_X8_isBetter_0 (i := 11) (q := 22) rfl rfl) rfl (fun c2 => V_iconst (tat ok_X8_isBetter_0 (i := 14) (q := 27) rfl rfl) ic_0 <|
    V_X8_isBetter_27 rfl hr (jx (P := P) kk (Eq.trans (if_pos c1) (if_pos c2)))) (fun c2 => V_iconst (tat ok_X8_isBetter_0 (i := 12) (q := 23) rfl rfl) ic_1 <|
    V_goto (tat ok_X8_isBetter_0 (i := 13) (q := 26) rfl rfl) rfl <|
    V_X8_isBetter_27 rfl hr (jx (P := P) kk (Eq.trans (if_pos c1) (if_neg c2))))) (fun c1 => V_iload_n (tat ok_X8_isBetter_0 (i := 2) (q := 5) rfl rfl) 1 rfl rfl <|
    V_iload_n (tat ok_X8_isBetter_0 (i := 3) (q := 6) rfl rfl) 2 rfl rfl <|
    V_icmp_le (tat ok_X8_isBetter_0 (i := 4) (q := 9) rfl rfl) rfl (fun c3 => V_iconst (tat ok_X8_isBetter_0 (i := 7) (q := 14) rfl rfl) ic_0 <|
    V_goto (tat ok_X8_isBetter_0 (i := 8) (q := 17) rfl rfl) rfl <|
    V_X8_isBetter_27 rfl hr (jx (P := P) kk (Eq.trans (if_neg c1) (if_pos c3)))) (fun c3 => V_iconst (tat ok_X8_isBetter_0 (i := 5) (q := 10) rfl rfl) ic_1 <|
    V_goto (tat ok_X8_isBetter_0 (i := 6) (q := 13) rfl rfl) rfl <|
    V_X8_isBetter_27 rfl hr (jx (P := P) kk (Eq.trans (if_neg c1) (if_neg c3)))))
theorem ct_X8_isBetter  (I : WI) (L : WL) (a0 : Int32) (a1 : Int32) (a2 : Int32)  : Ct x_X8_isBetter 1 [.int a0, .int a1, .int a2] ly0 I L R0 0 0 (some (.int (F_X8_isBetter a0 a1 a2)), ly0, I, L, R0) :=
  Ct_of_V mo_X8_isBetter.1 (Nat.le_of_ble_eq_true rfl) (V_X8_isBetter (P := fun x => x = (F_X8_isBetter a0 a1 a2))  (fun _ e => by rw [e]) rfl)
def G_0 (I : WI) (r0 : Nat) (a1 : Int64) (a3 : Int32) (a4 : Int32) : Int32 := F_J13_bitCount_95d88 a1
theorem ct_G0 (I : WI) (L : WL) (r0 : Nat) (a1 : Int64) (a3 : Int32) (a4 : Int32) (hr0 : isX0 r0) (hl : a3.toInt ≤ 0) : Ct x_X8_endOfDuel 5 [.ref r0, .long a1, .int a3, .int a4] ly0 I L R0 0 0 (some (.int (G_0 I r0 a1 a3 a4)), ly0, I, L, R0) :=
  Ct_of_V mo_X8_endOfDuel.1 (Nat.le_of_ble_eq_true rfl) (V_iload_n (tat ok_X8_endOfDuel_0 (i := 0) (q := 1) rfl rfl) 2 rfl rfl <|
    V_iconst (tat ok_X8_endOfDuel_0 (i := 1) (q := 2) rfl rfl) ic_1 <|
    V_icmp_lt (tat ok_X8_endOfDuel_0 (i := 2) (q := 5) rfl rfl) rfl (fun _ => V_lload_n (tat ok_X8_endOfDuel_0 (i := 6) (q := 11) rfl rfl) 1 rfl rfl <|
    V_cs1 (ct_J13_bitCount_95d88 I L a1) mo_J13_bitCount_95d88 (tat ok_X8_endOfDuel_0 (i := 7) (q := 14) rfl rfl) ml_X8_322 ⟨(Nat.le_of_ble_eq_true rfl), (Nat.le_of_ble_eq_true rfl)⟩ ⟨(Nat.le_of_ble_eq_true rfl), (Nat.le_of_ble_eq_true rfl)⟩ (Nat.le_of_ble_eq_true rfl) <|
    V_iret (tat ok_X8_endOfDuel_0 (i := 8) (q := 15) rfl rfl) _ rfl (nar_int _) rfl ⟨(Nat.le_of_ble_eq_true rfl), (Nat.le_of_ble_eq_true rfl)⟩) (fun c => absurd (Int32.lt_iff_toInt_lt.mpr (by have : (1 : Int32).toInt = 1 := rfl; omega)) c))
theorem du {x : Int32} {n m : Nat} (hg : ¬ x < 1) (hl : x.toInt ≤ (m : Int)) (h : m = n + 1) : (x - 1).toInt ≤ (n : Int) := by
  rw [Int32.lt_iff_toInt_lt] at hg
  have h1 : (1 : Int32).toInt = 1 := rfl
  have h2 := x.toInt_lt
  rw [Int32.toInt_sub, h1, Int.bmod_def]
  split <;> omega
def F_X8_eod1_10 (I : WI) (r0 : Nat) (a1 : Int64) (a3 : Int32) (a4 : Int32) : Int32 :=
  (F_J13_bitCount_95d88 a1)
theorem V_X8_eod1_10  {I : WI} {L : WL} {r0 : Nat} {a1 : Int64} {a3 : Int32} {a4 : Int32}  {P : Int32 → Prop} {t : Tg} (hr0 : isX0 r0) (hl : a3.toInt ≤ 1) (hg : ¬ a3 < 1) (hr : ∀ v, P v → t = (some (.int v), ly0, I, L, R0)) (kk : P (F_X8_eod1_10 I r0 a1 a3 a4)) : V (zM x_X8_endOfDuel 6 0 0 t) 10 [(0, .ref r0), (1, .long a1), (3, .int a3), (4, .int a4)] [] ly0 I L R0 0 0 :=
  V_lload_n (tat ok_X8_endOfDuel_0 (i := 6) (q := 11) rfl rfl) 1 rfl rfl <|
    V_cs1 (ct_J13_bitCount_95d88 I L a1 ) mo_J13_bitCount_95d88 (tat ok_X8_endOfDuel_0 (i := 7) (q := 14) rfl rfl) ml_X8_322 ⟨(Nat.le_of_ble_eq_true rfl), (Nat.le_of_ble_eq_true rfl)⟩ ⟨(Nat.le_of_ble_eq_true rfl), (Nat.le_of_ble_eq_true rfl)⟩ (Nat.le_of_ble_eq_true rfl) <|
    V_iret (tat ok_X8_endOfDuel_0 (i := 8) (q := 15) rfl rfl) _ rfl (nar_int _) (hr (F_J13_bitCount_95d88 a1) (jx (P := P) kk rfl)) ⟨(Nat.le_of_ble_eq_true rfl), (Nat.le_of_ble_eq_true rfl)⟩
def F_X8_eod1_106_1 (I : WI) (r0 : Nat) (a1 : Int64) (a3 : Int32) (a4 : Int32) (a5 : Int32) (a7 : Int32) (a6 : Int32) : Int32 :=
  a6
theorem V_X8_eod1_106_1  {I : WI} {L : WL} {r0 : Nat} {a1 : Int64} {a3 : Int32} {a4 : Int32} {a5 : Int32} {a7 : Int32} {a6 : Int32} {P : Int32 → Prop} {t : Tg} (hr0 : isX0 r0) (hl : a3.toInt ≤ 1) (hg : ¬ a3 < 1) (hb5 : bz a5 = a5) (hk : ∀ x : Int32, P x → V (zM x_X8_endOfDuel 6 0 0 t) 50 [(0, .ref r0), (1, .long a1), (3, .int a3), (4, .int a4), (5, .int a5), (6, .int x), (7, .int (a7 + 1))] [] ly0 I L R0 0 0) (kk : P (F_X8_eod1_106_1 I r0 a1 a3 a4 a5 a7 a6)) : V (zM x_X8_endOfDuel 6 0 0 t) 106 [(0, .ref r0), (1, .long a1), (3, .int a3), (4, .int a4), (5, .int a5), (6, .int a6), (7, .int a7)] [] ly0 I L R0 0 0 :=
  V_iinc (v := (a7 + 1)) (lv' := [(7, .int (a7 + 1)), (0, .ref r0), (1, .long a1), (3, .int a3), (4, .int a4), (5, .int a5), (6, .int a6)]) (tat ok_X8_endOfDuel_1 (i := 18) (q := 109) rfl rfl) 6 rfl (ia ic_1) (Nat.le_of_ble_eq_true rfl) rfl <|
    V_goto (tat ok_X8_endOfDuel_1 (i := 19) (q := 112) rfl rfl) rfl <|
    V_pick [1, 2, 3, 4, 5, 6, 0] rfl (hk a6 (jx (P := P) kk rfl))
def F_X8_eod1_61_1 (I : WI) (r0 : Nat) (a1 : Int64) (a3 : Int32) (a4 : Int32) (a5 : Int32) (a7 : Int32) (a6 : Int32) : Int32 :=
  (if a4 = 0 then (if (F_X8_isBetter a4 (G_0 I r0 (a1 ^^^ (F_X0_squaresOf I r0 a5 a7)) (a3 - 1) 1) a6) = 0 then (F_X8_eod1_106_1 I r0 a1 a3 a4 a5 a7 a6) else (F_X8_eod1_106_1 I r0 a1 a3 a4 a5 a7 (G_0 I r0 (a1 ^^^ (F_X0_squaresOf I r0 a5 a7)) (a3 - 1) 1))) else (if (F_X8_isBetter a4 (G_0 I r0 (a1 ^^^ (F_X0_squaresOf I r0 a5 a7)) (a3 - 1) 0) a6) = 0 then (F_X8_eod1_106_1 I r0 a1 a3 a4 a5 a7 a6) else (F_X8_eod1_106_1 I r0 a1 a3 a4 a5 a7 (G_0 I r0 (a1 ^^^ (F_X0_squaresOf I r0 a5 a7)) (a3 - 1) 0))))
theorem V_X8_eod1_61_1  {I : WI} {L : WL} {r0 : Nat} {a1 : Int64} {a3 : Int32} {a4 : Int32} {a5 : Int32} {a7 : Int32} {a6 : Int32} {P : Int32 → Prop} {t : Tg} (hr0 : isX0 r0) (hl : a3.toInt ≤ 1) (hg : ¬ a3 < 1) (hb5 : bz a5 = a5) (hk : ∀ x : Int32, P x → V (zM x_X8_endOfDuel 6 0 0 t) 50 [(0, .ref r0), (1, .long a1), (3, .int a3), (4, .int a4), (5, .int a5), (6, .int x), (7, .int (a7 + 1))] [] ly0 I L R0 0 0) (kk : P (F_X8_eod1_61_1 I r0 a1 a3 a4 a5 a7 a6)) : V (zM x_X8_endOfDuel 6 0 0 t) 61 [(0, .ref r0), (1, .long a1), (3, .int a3), (4, .int a4), (5, .int a5), (6, .int a6), (7, .int a7)] [] ly0 I L R0 0 0 :=
  V_aload_n (tat ok_X8_endOfDuel_0 (i := 34) (q := 62) rfl rfl) 0 rfl rfl <|
    V_lload_n (tat ok_X8_endOfDuel_0 (i := 35) (q := 63) rfl rfl) 1 rfl rfl <|
    V_aload_n (tat ok_X8_endOfDuel_0 (i := 36) (q := 64) rfl rfl) 0 rfl rfl <|
    V_iload (tat ok_X8_endOfDuel_0 (i := 37) (q := 66) rfl rfl) 4 rfl <|
    V_iload (tat ok_X8_endOfDuel_0 (i := 38) (q := 68) rfl rfl) 6 rfl <|
    V_cv2 (ct_X0_squaresOf I L r0 a5 a7 hr0) mo_X0_squaresOf (tat ok_X8_endOfDuel_0 (i := 39) (q := 71) rfl rfl) ml_X8_155 hr0 ⟨by decide, _, rfl, rfl⟩ ⟨(Nat.le_of_ble_eq_true rfl), (Nat.le_of_ble_eq_true rfl)⟩ ⟨(Nat.le_of_ble_eq_true rfl), (Nat.le_of_ble_eq_true rfl)⟩ (Nat.le_of_ble_eq_true rfl) <|
    V_lxor (tat ok_X8_endOfDuel_1 (i := 0) (q := 72) rfl rfl) <|
    V_iload_n (tat ok_X8_endOfDuel_1 (i := 1) (q := 73) rfl rfl) 2 rfl rfl <|
    V_iconst (tat ok_X8_endOfDuel_1 (i := 2) (q := 74) rfl rfl) ic_1 <|
    V_isub (tat ok_X8_endOfDuel_1 (i := 3) (q := 75) rfl rfl) <|
    V_iload (tat ok_X8_endOfDuel_1 (i := 4) (q := 77) rfl rfl) 3 rfl <|
    V_if_ne (tat ok_X8_endOfDuel_1 (i := 5) (q := 80) rfl rfl) rfl (fun c5 => V_iconst (tat ok_X8_endOfDuel_1 (i := 8) (q := 85) rfl rfl) ic_0 <|
    V_cs4 (ct_G0 I L r0 (a1 ^^^ (F_X0_squaresOf I r0 a5 a7)) (a3 - 1) 0 hr0 (du hg hl rfl)) mo_X8_endOfDuel (tat ok_X8_endOfDuel_1 (i := 9) (q := 88) rfl rfl) ml_X8_237 ⟨(Nat.le_of_ble_eq_true rfl), (Nat.le_of_ble_eq_true rfl)⟩ ⟨(Nat.le_of_ble_eq_true rfl), (Nat.le_of_ble_eq_true rfl)⟩ (Nat.le_of_ble_eq_true rfl) <|
    V_istore (lv' := [(8, .int (G_0 I r0 (a1 ^^^ (F_X0_squaresOf I r0 a5 a7)) (a3 - 1) 0)), (0, .ref r0), (1, .long a1), (3, .int a3), (4, .int a4), (5, .int a5), (6, .int a6), (7, .int a7)]) (tat ok_X8_endOfDuel_1 (i := 10) (q := 90) rfl rfl) (Nat.le_of_ble_eq_true rfl) rfl <|
    V_iload (tat ok_X8_endOfDuel_1 (i := 11) (q := 92) rfl rfl) 4 rfl <|
    V_iload (tat ok_X8_endOfDuel_1 (i := 12) (q := 94) rfl rfl) 0 rfl <|
    V_iload (tat ok_X8_endOfDuel_1 (i := 13) (q := 96) rfl rfl) 6 rfl <|
    V_cs3 (ct_X8_isBetter I L a4 (G_0 I r0 (a1 ^^^ (F_X0_squaresOf I r0 a5 a7)) (a3 - 1) 0) a6 ) mo_X8_isBetter (tat ok_X8_endOfDuel_1 (i := 14) (q := 99) rfl rfl) ml_X8_241 ⟨(Nat.le_of_ble_eq_true rfl), (Nat.le_of_ble_eq_true rfl)⟩ ⟨(Nat.le_of_ble_eq_true rfl), (Nat.le_of_ble_eq_true rfl)⟩ (Nat.le_of_ble_eq_true rfl) <|
    V_if_eq (tat ok_X8_endOfDuel_1 (i := 15) (q := 102) rfl rfl) rfl (fun c7 => V_pick [1, 2, 3, 4, 5, 6, 7] rfl (V_X8_eod1_106_1 hr0 hl hg hb5 hk (jx (P := P) kk (Eq.trans (if_neg c5) (if_pos c7))))) (fun c7 => V_iload (tat ok_X8_endOfDuel_1 (i := 16) (q := 104) rfl rfl) 0 rfl <|
    V_istore (lv' := [(6, .int (G_0 I r0 (a1 ^^^ (F_X0_squaresOf I r0 a5 a7)) (a3 - 1) 0)), (8, .int (G_0 I r0 (a1 ^^^ (F_X0_squaresOf I r0 a5 a7)) (a3 - 1) 0)), (0, .ref r0), (1, .long a1), (3, .int a3), (4, .int a4), (5, .int a5), (7, .int a7)]) (tat ok_X8_endOfDuel_1 (i := 17) (q := 106) rfl rfl) (Nat.le_of_ble_eq_true rfl) rfl <|
    V_pick [2, 3, 4, 5, 6, 0, 7] rfl (V_X8_eod1_106_1 hr0 hl hg hb5 hk (jx (P := P) kk (Eq.trans (if_neg c5) (if_neg c7)))))) (fun c5 => V_iconst (tat ok_X8_endOfDuel_1 (i := 6) (q := 81) rfl rfl) ic_1 <|
    V_goto (tat ok_X8_endOfDuel_1 (i := 7) (q := 84) rfl rfl) rfl <|
    V_cs4 (ct_G0 I L r0 (a1 ^^^ (F_X0_squaresOf I r0 a5 a7)) (a3 - 1) 1 hr0 (du hg hl rfl)) mo_X8_endOfDuel (tat ok_X8_endOfDuel_1 (i := 9) (q := 88) rfl rfl) ml_X8_237 ⟨(Nat.le_of_ble_eq_true rfl), (Nat.le_of_ble_eq_true rfl)⟩ ⟨(Nat.le_of_ble_eq_true rfl), (Nat.le_of_ble_eq_true rfl)⟩ (Nat.le_of_ble_eq_true rfl) <|
    V_istore (lv' := [(8, .int (G_0 I r0 (a1 ^^^ (F_X0_squaresOf I r0 a5 a7)) (a3 - 1) 1)), (0, .ref r0), (1, .long a1), (3, .int a3), (4, .int a4), (5, .int a5), (6, .int a6), (7, .int a7)]) (tat ok_X8_endOfDuel_1 (i := 10) (q := 90) rfl rfl) (Nat.le_of_ble_eq_true rfl) rfl <|
    V_iload (tat ok_X8_endOfDuel_1 (i := 11) (q := 92) rfl rfl) 4 rfl <|
    V_iload (tat ok_X8_endOfDuel_1 (i := 12) (q := 94) rfl rfl) 0 rfl <|
    V_iload (tat ok_X8_endOfDuel_1 (i := 13) (q := 96) rfl rfl) 6 rfl <|
    V_cs3 (ct_X8_isBetter I L a4 (G_0 I r0 (a1 ^^^ (F_X0_squaresOf I r0 a5 a7)) (a3 - 1) 1) a6 ) mo_X8_isBetter (tat ok_X8_endOfDuel_1 (i := 14) (q := 99) rfl rfl) ml_X8_241 ⟨(Nat.le_of_ble_eq_true rfl), (Nat.le_of_ble_eq_true rfl)⟩ ⟨(Nat.le_of_ble_eq_true rfl), (Nat.le_of_ble_eq_true rfl)⟩ (Nat.le_of_ble_eq_true rfl) <|
    V_if_eq (tat ok_X8_endOfDuel_1 (i := 15) (q := 102) rfl rfl) rfl (fun c6 => V_pick [1, 2, 3, 4, 5, 6, 7] rfl (V_X8_eod1_106_1 hr0 hl hg hb5 hk (jx (P := P) kk (Eq.trans (if_pos c5) (if_pos c6))))) (fun c6 => V_iload (tat ok_X8_endOfDuel_1 (i := 16) (q := 104) rfl rfl) 0 rfl <|
    V_istore (lv' := [(6, .int (G_0 I r0 (a1 ^^^ (F_X0_squaresOf I r0 a5 a7)) (a3 - 1) 1)), (8, .int (G_0 I r0 (a1 ^^^ (F_X0_squaresOf I r0 a5 a7)) (a3 - 1) 1)), (0, .ref r0), (1, .long a1), (3, .int a3), (4, .int a4), (5, .int a5), (7, .int a7)]) (tat ok_X8_endOfDuel_1 (i := 17) (q := 106) rfl rfl) (Nat.le_of_ble_eq_true rfl) rfl <|
    V_pick [2, 3, 4, 5, 6, 0, 7] rfl (V_X8_eod1_106_1 hr0 hl hg hb5 hk (jx (P := P) kk (Eq.trans (if_pos c5) (if_neg c6))))))
def F_X8_eod1_112 (I : WI) (r0 : Nat) (a1 : Int64) (a3 : Int32) (a4 : Int32) (a6 : Int32) : Int32 :=
  a6
theorem V_X8_eod1_112  {I : WI} {L : WL} {r0 : Nat} {a1 : Int64} {a3 : Int32} {a4 : Int32} {a6 : Int32} {P : Int32 → Prop} {t : Tg} (hr0 : isX0 r0) (hl : a3.toInt ≤ 1) (hg : ¬ a3 < 1) (hr : ∀ v, P v → t = (some (.int v), ly0, I, L, R0)) (kk : P (F_X8_eod1_112 I r0 a1 a3 a4 a6)) : V (zM x_X8_endOfDuel 6 0 0 t) 112 [(0, .ref r0), (1, .long a1), (3, .int a3), (4, .int a4), (6, .int a6)] [] ly0 I L R0 0 0 :=
  V_iload (tat ok_X8_endOfDuel_1 (i := 20) (q := 114) rfl rfl) 4 rfl <|
    V_iret (tat ok_X8_endOfDuel_1 (i := 21) (q := 115) rfl rfl) _ rfl (nar_int _) (hr a6 (jx (P := P) kk rfl)) ⟨(Nat.le_of_ble_eq_true rfl), (Nat.le_of_ble_eq_true rfl)⟩
def F_X8_eod1_50 (I : WI) (r0 : Nat) (a1 : Int64) (a3 : Int32) (a4 : Int32) (a5 : Int32) (a6 : Int32) (a7 : Int32) : Int32 :=
  (fun q : Int32 × Int32 => (F_X8_eod1_112 I r0 a1 a3 a4 (p2 q))) (fr0 (fun i x => (F_X8_eod1_61_1 I r0 a1 a3 a4 a5 i x)) (F_X0_linesOf I r0 a5) (fu a7 (F_X0_linesOf I r0 a5)) a7 a6)
theorem V_X8_eod1_50  {I : WI} {L : WL} {r0 : Nat} {a1 : Int64} {a3 : Int32} {a4 : Int32} {a5 : Int32} {a6 : Int32} {a7 : Int32} {P : Int32 → Prop} {t : Tg} (hr0 : isX0 r0) (hl : a3.toInt ≤ 1) (hg : ¬ a3 < 1) (hb5 : bz a5 = a5) (hb7 : bz a7 = a7) (hr : ∀ v, P v → t = (some (.int v), ly0, I, L, R0)) (kk : P (F_X8_eod1_50 I r0 a1 a3 a4 a5 a6 a7)) : V (zM x_X8_endOfDuel 6 0 0 t) 50 [(0, .ref r0), (1, .long a1), (3, .int a3), (4, .int a4), (5, .int a5), (6, .int a6), (7, .int a7)] [] ly0 I L R0 0 0 :=
  V_fr0 (fun i x => (F_X8_eod1_61_1 I r0 a1 a3 a4 a5 i x)) (F_X0_linesOf I r0 a5) (fun i x => V (zM x_X8_endOfDuel 6 0 0 t) 50 [(0, .ref r0), (1, .long a1), (3, .int a3), (4, .int a4), (5, .int a5), (6, .int x), (7, .int i)] [] ly0 I L R0 0 0) (fun i x => P ((F_X8_eod1_112 I r0 a1 a3 a4 x))) (c := a7) (s := a6) (fun i x kx kb => V_iload (tat ok_X8_endOfDuel_0 (i := 29) (q := 52) rfl rfl) 6 rfl <|
    V_aload_n (tat ok_X8_endOfDuel_0 (i := 30) (q := 53) rfl rfl) 0 rfl rfl <|
    V_iload (tat ok_X8_endOfDuel_0 (i := 31) (q := 55) rfl rfl) 4 rfl <|
    V_cv1 (ct_X0_linesOf I L r0 a5 hr0) mo_X0_linesOf (tat ok_X8_endOfDuel_0 (i := 32) (q := 58) rfl rfl) ml_X8_126 hr0 ⟨by decide, _, rfl, rfl⟩ ⟨(Nat.le_of_ble_eq_true rfl), (Nat.le_of_ble_eq_true rfl)⟩ ⟨(Nat.le_of_ble_eq_true rfl), (Nat.le_of_ble_eq_true rfl)⟩ (Nat.le_of_ble_eq_true rfl) <|
    V_icmp_ge (tat ok_X8_endOfDuel_0 (i := 33) (q := 61) rfl rfl) rfl (fun c0 => V_pick [0, 1, 2, 3, 5] rfl (V_X8_eod1_112 hr0 hl hg hr (kx c0))) (fun c0 => V_X8_eod1_61_1 (P := (fun x => (fun i x => V (zM x_X8_endOfDuel 6 0 0 t) 50 [(0, .ref r0), (1, .long a1), (3, .int a3), (4, .int a4), (5, .int a5), (6, .int x), (7, .int i)] [] ly0 I L R0 0 0) (i + 1) x)) hr0 hl hg hb5 (fun _ e => e) (kb c0))) kk
def F_X8_eod1_25 (I : WI) (r0 : Nat) (a1 : Int64) (a3 : Int32) (a4 : Int32) (s0 : Int32) : Int32 :=
  (if a4 = 0 then (F_X8_eod1_50 I r0 a1 a3 a4 s0 (G_0 I r0 a1 (a3 - 1) 1) 0) else (F_X8_eod1_50 I r0 a1 a3 a4 s0 (G_0 I r0 a1 (a3 - 1) 0) 0))
theorem V_X8_eod1_25  {I : WI} {L : WL} {r0 : Nat} {a1 : Int64} {a3 : Int32} {a4 : Int32} {s0 : Int32} {P : Int32 → Prop} {t : Tg} (hr0 : isX0 r0) (hl : a3.toInt ≤ 1) (hg : ¬ a3 < 1) (hs0 : bz s0 = s0) (hr : ∀ v, P v → t = (some (.int v), ly0, I, L, R0)) (kk : P (F_X8_eod1_25 I r0 a1 a3 a4 s0)) : V (zM x_X8_endOfDuel 6 0 0 t) 25 [(0, .ref r0), (1, .long a1), (3, .int a3), (4, .int a4)] [.int s0] ly0 I L R0 0 0 :=
  V_istore (lv' := [(5, .int s0), (0, .ref r0), (1, .long a1), (3, .int a3), (4, .int a4)]) (tat ok_X8_endOfDuel_0 (i := 14) (q := 27) rfl rfl) (Nat.le_of_ble_eq_true rfl) rfl <|
    V_aload_n (tat ok_X8_endOfDuel_0 (i := 15) (q := 28) rfl rfl) 1 rfl rfl <|
    V_lload_n (tat ok_X8_endOfDuel_0 (i := 16) (q := 29) rfl rfl) 2 rfl rfl <|
    V_iload_n (tat ok_X8_endOfDuel_0 (i := 17) (q := 30) rfl rfl) 3 rfl rfl <|
    V_iconst (tat ok_X8_endOfDuel_0 (i := 18) (q := 31) rfl rfl) ic_1 <|
    V_isub (tat ok_X8_endOfDuel_0 (i := 19) (q := 32) rfl rfl) <|
    V_iload (tat ok_X8_endOfDuel_0 (i := 20) (q := 34) rfl rfl) 4 rfl <|
    V_if_ne (tat ok_X8_endOfDuel_0 (i := 21) (q := 37) rfl rfl) rfl (fun c4 => V_iconst (tat ok_X8_endOfDuel_0 (i := 24) (q := 42) rfl rfl) ic_0 <|
    V_cs4 (ct_G0 I L r0 a1 (a3 - 1) 0 hr0 (du hg hl rfl)) mo_X8_endOfDuel (tat ok_X8_endOfDuel_0 (i := 25) (q := 45) rfl rfl) ml_X8_237 ⟨(Nat.le_of_ble_eq_true rfl), (Nat.le_of_ble_eq_true rfl)⟩ ⟨(Nat.le_of_ble_eq_true rfl), (Nat.le_of_ble_eq_true rfl)⟩ (Nat.le_of_ble_eq_true rfl) <|
    V_istore (lv' := [(6, .int (G_0 I r0 a1 (a3 - 1) 0)), (5, .int s0), (0, .ref r0), (1, .long a1), (3, .int a3), (4, .int a4)]) (tat ok_X8_endOfDuel_0 (i := 26) (q := 47) rfl rfl) (Nat.le_of_ble_eq_true rfl) rfl <|
    V_iconst (tat ok_X8_endOfDuel_0 (i := 27) (q := 48) rfl rfl) ic_0 <|
    V_istore (lv' := [(7, .int 0), (6, .int (G_0 I r0 a1 (a3 - 1) 0)), (5, .int s0), (0, .ref r0), (1, .long a1), (3, .int a3), (4, .int a4)]) (tat ok_X8_endOfDuel_0 (i := 28) (q := 50) rfl rfl) (Nat.le_of_ble_eq_true rfl) rfl <|
    V_pick [3, 4, 5, 6, 2, 1, 0] rfl (V_X8_eod1_50 hr0 hl hg hs0 rfl hr (jx (P := P) kk (if_neg c4)))) (fun c4 => V_iconst (tat ok_X8_endOfDuel_0 (i := 22) (q := 38) rfl rfl) ic_1 <|
    V_goto (tat ok_X8_endOfDuel_0 (i := 23) (q := 41) rfl rfl) rfl <|
    V_cs4 (ct_G0 I L r0 a1 (a3 - 1) 1 hr0 (du hg hl rfl)) mo_X8_endOfDuel (tat ok_X8_endOfDuel_0 (i := 25) (q := 45) rfl rfl) ml_X8_237 ⟨(Nat.le_of_ble_eq_true rfl), (Nat.le_of_ble_eq_true rfl)⟩ ⟨(Nat.le_of_ble_eq_true rfl), (Nat.le_of_ble_eq_true rfl)⟩ (Nat.le_of_ble_eq_true rfl) <|
    V_istore (lv' := [(6, .int (G_0 I r0 a1 (a3 - 1) 1)), (5, .int s0), (0, .ref r0), (1, .long a1), (3, .int a3), (4, .int a4)]) (tat ok_X8_endOfDuel_0 (i := 26) (q := 47) rfl rfl) (Nat.le_of_ble_eq_true rfl) rfl <|
    V_iconst (tat ok_X8_endOfDuel_0 (i := 27) (q := 48) rfl rfl) ic_0 <|
    V_istore (lv' := [(7, .int 0), (6, .int (G_0 I r0 a1 (a3 - 1) 1)), (5, .int s0), (0, .ref r0), (1, .long a1), (3, .int a3), (4, .int a4)]) (tat ok_X8_endOfDuel_0 (i := 28) (q := 50) rfl rfl) (Nat.le_of_ble_eq_true rfl) rfl <|
    V_pick [3, 4, 5, 6, 2, 1, 0] rfl (V_X8_eod1_50 hr0 hl hg hs0 rfl hr (jx (P := P) kk (if_pos c4))))
def F_X8_eod1 (I : WI) (r0 : Nat) (a1 : Int64) (a3 : Int32) (a4 : Int32) : Int32 :=
  (if a3 < 1 then (F_X8_eod1_10 I r0 a1 a3 a4) else (if a3 ≤ 4 then (if a4 = 0 then (F_X8_eod1_25 I r0 a1 a3 a4 1) else (F_X8_eod1_25 I r0 a1 a3 a4 0)) else (F_X8_eod1_10 I r0 a1 a3 a4)))
theorem V_X8_eod1  {I : WI} {L : WL} {r0 : Nat} {a1 : Int64} {a3 : Int32} {a4 : Int32}  {P : Int32 → Prop} {t : Tg} (hr0 : isX0 r0) (hl : a3.toInt ≤ 1) (hg : ¬ a3 < 1) (hr : ∀ v, P v → t = (some (.int v), ly0, I, L, R0)) (kk : P (F_X8_eod1 I r0 a1 a3 a4)) : V (zM x_X8_endOfDuel 6 0 0 t) 0 [(0, .ref r0), (1, .long a1), (3, .int a3), (4, .int a4)] [] ly0 I L R0 0 0 :=
  V_iload_n (tat ok_X8_endOfDuel_0 (i := 0) (q := 1) rfl rfl) 2 rfl rfl <|
    V_iconst (tat ok_X8_endOfDuel_0 (i := 1) (q := 2) rfl rfl) ic_1 <|
    V_icmp_lt (tat ok_X8_endOfDuel_0 (i := 2) (q := 5) rfl rfl) rfl (fun c1 => V_X8_eod1_10 hr0 hl hg hr (jx (P := P) kk (if_pos c1))) (fun c1 => V_iload_n (tat ok_X8_endOfDuel_0 (i := 3) (q := 6) rfl rfl) 2 rfl rfl <|
    V_iconst (tat ok_X8_endOfDuel_0 (i := 4) (q := 7) rfl rfl) ic_4 <|
    V_icmp_le (tat ok_X8_endOfDuel_0 (i := 5) (q := 10) rfl rfl) rfl (fun c2 => V_iload (tat ok_X8_endOfDuel_0 (i := 9) (q := 17) rfl rfl) 3 rfl <|
    V_if_eq (tat ok_X8_endOfDuel_0 (i := 10) (q := 20) rfl rfl) rfl (fun c3 => V_iconst (tat ok_X8_endOfDuel_0 (i := 13) (q := 25) rfl rfl) ic_1 <|
    V_X8_eod1_25 hr0 hl hg rfl hr (jx (P := P) kk (Eq.trans (if_neg c1) (Eq.trans (if_pos c2) (if_pos c3))))) (fun c3 => V_iconst (tat ok_X8_endOfDuel_0 (i := 11) (q := 21) rfl rfl) ic_0 <|
    V_goto (tat ok_X8_endOfDuel_0 (i := 12) (q := 24) rfl rfl) rfl <|
    V_X8_eod1_25 hr0 hl hg rfl hr (jx (P := P) kk (Eq.trans (if_neg c1) (Eq.trans (if_pos c2) (if_neg c3)))))) (fun c2 => V_X8_eod1_10 hr0 hl hg hr (jx (P := P) kk (Eq.trans (if_neg c1) (if_neg c2)))))
theorem ct_X8_eod1  (I : WI) (L : WL) (r0 : Nat) (a1 : Int64) (a3 : Int32) (a4 : Int32) (hr0 : isX0 r0) (hl : a3.toInt ≤ 1) (hg : ¬ a3 < 1) : Ct x_X8_endOfDuel 6 [.ref r0, .long a1, .int a3, .int a4] ly0 I L R0 0 0 (some (.int (F_X8_eod1 I r0 a1 a3 a4)), ly0, I, L, R0) :=
  Ct_of_V mo_X8_endOfDuel.1 (Nat.le_of_ble_eq_true rfl) (V_X8_eod1 (P := fun x => x = (F_X8_eod1 I r0 a1 a3 a4)) hr0 hl hg (fun _ e => by rw [e]) rfl)
def G_1 (I : WI) (r0 : Nat) (a1 : Int64) (a3 : Int32) (a4 : Int32) : Int32 := if a3 < 1 then G_0 I r0 a1 a3 a4 else F_X8_eod1 I r0 a1 a3 a4
theorem ct_G1 (I : WI) (L : WL) (r0 : Nat) (a1 : Int64) (a3 : Int32) (a4 : Int32) (hr0 : isX0 r0) (hl : a3.toInt ≤ 1) : Ct x_X8_endOfDuel 6 [.ref r0, .long a1, .int a3, .int a4] ly0 I L R0 0 0 (some (.int (G_1 I r0 a1 a3 a4)), ly0, I, L, R0) := by
  unfold G_1
  by_cases hg : a3 < 1
  · rw [if_pos hg]
    exact Ct_of_V mo_X8_endOfDuel.1 (Nat.le_of_ble_eq_true rfl) (V_iload_n (tat ok_X8_endOfDuel_0 (i := 0) (q := 1) rfl rfl) 2 rfl rfl <|
    V_iconst (tat ok_X8_endOfDuel_0 (i := 1) (q := 2) rfl rfl) ic_1 <|
    V_icmp_lt (tat ok_X8_endOfDuel_0 (i := 2) (q := 5) rfl rfl) rfl (fun _ => V_lload_n (tat ok_X8_endOfDuel_0 (i := 6) (q := 11) rfl rfl) 1 rfl rfl <|
    V_cs1 (ct_J13_bitCount_95d88 I L a1) mo_J13_bitCount_95d88 (tat ok_X8_endOfDuel_0 (i := 7) (q := 14) rfl rfl) ml_X8_322 ⟨(Nat.le_of_ble_eq_true rfl), (Nat.le_of_ble_eq_true rfl)⟩ ⟨(Nat.le_of_ble_eq_true rfl), (Nat.le_of_ble_eq_true rfl)⟩ (Nat.le_of_ble_eq_true rfl) <|
    V_iret (tat ok_X8_endOfDuel_0 (i := 8) (q := 15) rfl rfl) _ rfl (nar_int _) rfl ⟨(Nat.le_of_ble_eq_true rfl), (Nat.le_of_ble_eq_true rfl)⟩) (fun c => absurd hg c))
  · rw [if_neg hg]
    exact ct_X8_eod1 I L r0 a1 a3 a4 hr0 hl hg
def F_X8_eod2_10 (I : WI) (r0 : Nat) (a1 : Int64) (a3 : Int32) (a4 : Int32) : Int32 :=
  (F_J13_bitCount_95d88 a1)
theorem V_X8_eod2_10  {I : WI} {L : WL} {r0 : Nat} {a1 : Int64} {a3 : Int32} {a4 : Int32}  {P : Int32 → Prop} {t : Tg} (hr0 : isX0 r0) (hl : a3.toInt ≤ 2) (hg : ¬ a3 < 1) (hr : ∀ v, P v → t = (some (.int v), ly0, I, L, R0)) (kk : P (F_X8_eod2_10 I r0 a1 a3 a4)) : V (zM x_X8_endOfDuel 7 0 0 t) 10 [(0, .ref r0), (1, .long a1), (3, .int a3), (4, .int a4)] [] ly0 I L R0 0 0 :=
  V_lload_n (tat ok_X8_endOfDuel_0 (i := 6) (q := 11) rfl rfl) 1 rfl rfl <|
    V_cs1 (ct_J13_bitCount_95d88 I L a1 ) mo_J13_bitCount_95d88 (tat ok_X8_endOfDuel_0 (i := 7) (q := 14) rfl rfl) ml_X8_322 ⟨(Nat.le_of_ble_eq_true rfl), (Nat.le_of_ble_eq_true rfl)⟩ ⟨(Nat.le_of_ble_eq_true rfl), (Nat.le_of_ble_eq_true rfl)⟩ (Nat.le_of_ble_eq_true rfl) <|
    V_iret (tat ok_X8_endOfDuel_0 (i := 8) (q := 15) rfl rfl) _ rfl (nar_int _) (hr (F_J13_bitCount_95d88 a1) (jx (P := P) kk rfl)) ⟨(Nat.le_of_ble_eq_true rfl), (Nat.le_of_ble_eq_true rfl)⟩
def F_X8_eod2_106_1 (I : WI) (r0 : Nat) (a1 : Int64) (a3 : Int32) (a4 : Int32) (a5 : Int32) (a7 : Int32) (a6 : Int32) : Int32 :=
  a6
theorem V_X8_eod2_106_1  {I : WI} {L : WL} {r0 : Nat} {a1 : Int64} {a3 : Int32} {a4 : Int32} {a5 : Int32} {a7 : Int32} {a6 : Int32} {P : Int32 → Prop} {t : Tg} (hr0 : isX0 r0) (hl : a3.toInt ≤ 2) (hg : ¬ a3 < 1) (hb5 : bz a5 = a5) (hk : ∀ x : Int32, P x → V (zM x_X8_endOfDuel 7 0 0 t) 50 [(0, .ref r0), (1, .long a1), (3, .int a3), (4, .int a4), (5, .int a5), (6, .int x), (7, .int (a7 + 1))] [] ly0 I L R0 0 0) (kk : P (F_X8_eod2_106_1 I r0 a1 a3 a4 a5 a7 a6)) : V (zM x_X8_endOfDuel 7 0 0 t) 106 [(0, .ref r0), (1, .long a1), (3, .int a3), (4, .int a4), (5, .int a5), (6, .int a6), (7, .int a7)] [] ly0 I L R0 0 0 :=
  V_iinc (v := (a7 + 1)) (lv' := [(7, .int (a7 + 1)), (0, .ref r0), (1, .long a1), (3, .int a3), (4, .int a4), (5, .int a5), (6, .int a6)]) (tat ok_X8_endOfDuel_1 (i := 18) (q := 109) rfl rfl) 6 rfl (ia ic_1) (Nat.le_of_ble_eq_true rfl) rfl <|
    V_goto (tat ok_X8_endOfDuel_1 (i := 19) (q := 112) rfl rfl) rfl <|
    V_pick [1, 2, 3, 4, 5, 6, 0] rfl (hk a6 (jx (P := P) kk rfl))
def F_X8_eod2_61_1 (I : WI) (r0 : Nat) (a1 : Int64) (a3 : Int32) (a4 : Int32) (a5 : Int32) (a7 : Int32) (a6 : Int32) : Int32 :=
  (if a4 = 0 then (if (F_X8_isBetter a4 (G_1 I r0 (a1 ^^^ (F_X0_squaresOf I r0 a5 a7)) (a3 - 1) 1) a6) = 0 then (F_X8_eod2_106_1 I r0 a1 a3 a4 a5 a7 a6) else (F_X8_eod2_106_1 I r0 a1 a3 a4 a5 a7 (G_1 I r0 (a1 ^^^ (F_X0_squaresOf I r0 a5 a7)) (a3 - 1) 1))) else (if (F_X8_isBetter a4 (G_1 I r0 (a1 ^^^ (F_X0_squaresOf I r0 a5 a7)) (a3 - 1) 0) a6) = 0 then (F_X8_eod2_106_1 I r0 a1 a3 a4 a5 a7 a6) else (F_X8_eod2_106_1 I r0 a1 a3 a4 a5 a7 (G_1 I r0 (a1 ^^^ (F_X0_squaresOf I r0 a5 a7)) (a3 - 1) 0))))
theorem V_X8_eod2_61_1  {I : WI} {L : WL} {r0 : Nat} {a1 : Int64} {a3 : Int32} {a4 : Int32} {a5 : Int32} {a7 : Int32} {a6 : Int32} {P : Int32 → Prop} {t : Tg} (hr0 : isX0 r0) (hl : a3.toInt ≤ 2) (hg : ¬ a3 < 1) (hb5 : bz a5 = a5) (hk : ∀ x : Int32, P x → V (zM x_X8_endOfDuel 7 0 0 t) 50 [(0, .ref r0), (1, .long a1), (3, .int a3), (4, .int a4), (5, .int a5), (6, .int x), (7, .int (a7 + 1))] [] ly0 I L R0 0 0) (kk : P (F_X8_eod2_61_1 I r0 a1 a3 a4 a5 a7 a6)) : V (zM x_X8_endOfDuel 7 0 0 t) 61 [(0, .ref r0), (1, .long a1), (3, .int a3), (4, .int a4), (5, .int a5), (6, .int a6), (7, .int a7)] [] ly0 I L R0 0 0 :=
  V_aload_n (tat ok_X8_endOfDuel_0 (i := 34) (q := 62) rfl rfl) 0 rfl rfl <|
    V_lload_n (tat ok_X8_endOfDuel_0 (i := 35) (q := 63) rfl rfl) 1 rfl rfl <|
    V_aload_n (tat ok_X8_endOfDuel_0 (i := 36) (q := 64) rfl rfl) 0 rfl rfl <|
    V_iload (tat ok_X8_endOfDuel_0 (i := 37) (q := 66) rfl rfl) 4 rfl <|
    V_iload (tat ok_X8_endOfDuel_0 (i := 38) (q := 68) rfl rfl) 6 rfl <|
    V_cv2 (ct_X0_squaresOf I L r0 a5 a7 hr0) mo_X0_squaresOf (tat ok_X8_endOfDuel_0 (i := 39) (q := 71) rfl rfl) ml_X8_155 hr0 ⟨by decide, _, rfl, rfl⟩ ⟨(Nat.le_of_ble_eq_true rfl), (Nat.le_of_ble_eq_true rfl)⟩ ⟨(Nat.le_of_ble_eq_true rfl), (Nat.le_of_ble_eq_true rfl)⟩ (Nat.le_of_ble_eq_true rfl) <|
    V_lxor (tat ok_X8_endOfDuel_1 (i := 0) (q := 72) rfl rfl) <|
    V_iload_n (tat ok_X8_endOfDuel_1 (i := 1) (q := 73) rfl rfl) 2 rfl rfl <|
    V_iconst (tat ok_X8_endOfDuel_1 (i := 2) (q := 74) rfl rfl) ic_1 <|
    V_isub (tat ok_X8_endOfDuel_1 (i := 3) (q := 75) rfl rfl) <|
    V_iload (tat ok_X8_endOfDuel_1 (i := 4) (q := 77) rfl rfl) 3 rfl <|
    V_if_ne (tat ok_X8_endOfDuel_1 (i := 5) (q := 80) rfl rfl) rfl (fun c5 => V_iconst (tat ok_X8_endOfDuel_1 (i := 8) (q := 85) rfl rfl) ic_0 <|
    V_cs4 (ct_G1 I L r0 (a1 ^^^ (F_X0_squaresOf I r0 a5 a7)) (a3 - 1) 0 hr0 (du hg hl rfl)) mo_X8_endOfDuel (tat ok_X8_endOfDuel_1 (i := 9) (q := 88) rfl rfl) ml_X8_237 ⟨(Nat.le_of_ble_eq_true rfl), (Nat.le_of_ble_eq_true rfl)⟩ ⟨(Nat.le_of_ble_eq_true rfl), (Nat.le_of_ble_eq_true rfl)⟩ (Nat.le_of_ble_eq_true rfl) <|
    V_istore (lv' := [(8, .int (G_1 I r0 (a1 ^^^ (F_X0_squaresOf I r0 a5 a7)) (a3 - 1) 0)), (0, .ref r0), (1, .long a1), (3, .int a3), (4, .int a4), (5, .int a5), (6, .int a6), (7, .int a7)]) (tat ok_X8_endOfDuel_1 (i := 10) (q := 90) rfl rfl) (Nat.le_of_ble_eq_true rfl) rfl <|
    V_iload (tat ok_X8_endOfDuel_1 (i := 11) (q := 92) rfl rfl) 4 rfl <|
    V_iload (tat ok_X8_endOfDuel_1 (i := 12) (q := 94) rfl rfl) 0 rfl <|
    V_iload (tat ok_X8_endOfDuel_1 (i := 13) (q := 96) rfl rfl) 6 rfl <|
    V_cs3 (ct_X8_isBetter I L a4 (G_1 I r0 (a1 ^^^ (F_X0_squaresOf I r0 a5 a7)) (a3 - 1) 0) a6 ) mo_X8_isBetter (tat ok_X8_endOfDuel_1 (i := 14) (q := 99) rfl rfl) ml_X8_241 ⟨(Nat.le_of_ble_eq_true rfl), (Nat.le_of_ble_eq_true rfl)⟩ ⟨(Nat.le_of_ble_eq_true rfl), (Nat.le_of_ble_eq_true rfl)⟩ (Nat.le_of_ble_eq_true rfl) <|
    V_if_eq (tat ok_X8_endOfDuel_1 (i := 15) (q := 102) rfl rfl) rfl (fun c7 => V_pick [1, 2, 3, 4, 5, 6, 7] rfl (V_X8_eod2_106_1 hr0 hl hg hb5 hk (jx (P := P) kk (Eq.trans (if_neg c5) (if_pos c7))))) (fun c7 => V_iload (tat ok_X8_endOfDuel_1 (i := 16) (q := 104) rfl rfl) 0 rfl <|
    V_istore (lv' := [(6, .int (G_1 I r0 (a1 ^^^ (F_X0_squaresOf I r0 a5 a7)) (a3 - 1) 0)), (8, .int (G_1 I r0 (a1 ^^^ (F_X0_squaresOf I r0 a5 a7)) (a3 - 1) 0)), (0, .ref r0), (1, .long a1), (3, .int a3), (4, .int a4), (5, .int a5), (7, .int a7)]) (tat ok_X8_endOfDuel_1 (i := 17) (q := 106) rfl rfl) (Nat.le_of_ble_eq_true rfl) rfl <|
    V_pick [2, 3, 4, 5, 6, 0, 7] rfl (V_X8_eod2_106_1 hr0 hl hg hb5 hk (jx (P := P) kk (Eq.trans (if_neg c5) (if_neg c7)))))) (fun c5 => V_iconst (tat ok_X8_endOfDuel_1 (i := 6) (q := 81) rfl rfl) ic_1 <|
    V_goto (tat ok_X8_endOfDuel_1 (i := 7) (q := 84) rfl rfl) rfl <|
    V_cs4 (ct_G1 I L r0 (a1 ^^^ (F_X0_squaresOf I r0 a5 a7)) (a3 - 1) 1 hr0 (du hg hl rfl)) mo_X8_endOfDuel (tat ok_X8_endOfDuel_1 (i := 9) (q := 88) rfl rfl) ml_X8_237 ⟨(Nat.le_of_ble_eq_true rfl), (Nat.le_of_ble_eq_true rfl)⟩ ⟨(Nat.le_of_ble_eq_true rfl), (Nat.le_of_ble_eq_true rfl)⟩ (Nat.le_of_ble_eq_true rfl) <|
    V_istore (lv' := [(8, .int (G_1 I r0 (a1 ^^^ (F_X0_squaresOf I r0 a5 a7)) (a3 - 1) 1)), (0, .ref r0), (1, .long a1), (3, .int a3), (4, .int a4), (5, .int a5), (6, .int a6), (7, .int a7)]) (tat ok_X8_endOfDuel_1 (i := 10) (q := 90) rfl rfl) (Nat.le_of_ble_eq_true rfl) rfl <|
    V_iload (tat ok_X8_endOfDuel_1 (i := 11) (q := 92) rfl rfl) 4 rfl <|
    V_iload (tat ok_X8_endOfDuel_1 (i := 12) (q := 94) rfl rfl) 0 rfl <|
    V_iload (tat ok_X8_endOfDuel_1 (i := 13) (q := 96) rfl rfl) 6 rfl <|
    V_cs3 (ct_X8_isBetter I L a4 (G_1 I r0 (a1 ^^^ (F_X0_squaresOf I r0 a5 a7)) (a3 - 1) 1) a6 ) mo_X8_isBetter (tat ok_X8_endOfDuel_1 (i := 14) (q := 99) rfl rfl) ml_X8_241 ⟨(Nat.le_of_ble_eq_true rfl), (Nat.le_of_ble_eq_true rfl)⟩ ⟨(Nat.le_of_ble_eq_true rfl), (Nat.le_of_ble_eq_true rfl)⟩ (Nat.le_of_ble_eq_true rfl) <|
    V_if_eq (tat ok_X8_endOfDuel_1 (i := 15) (q := 102) rfl rfl) rfl (fun c6 => V_pick [1, 2, 3, 4, 5, 6, 7] rfl (V_X8_eod2_106_1 hr0 hl hg hb5 hk (jx (P := P) kk (Eq.trans (if_pos c5) (if_pos c6))))) (fun c6 => V_iload (tat ok_X8_endOfDuel_1 (i := 16) (q := 104) rfl rfl) 0 rfl <|
    V_istore (lv' := [(6, .int (G_1 I r0 (a1 ^^^ (F_X0_squaresOf I r0 a5 a7)) (a3 - 1) 1)), (8, .int (G_1 I r0 (a1 ^^^ (F_X0_squaresOf I r0 a5 a7)) (a3 - 1) 1)), (0, .ref r0), (1, .long a1), (3, .int a3), (4, .int a4), (5, .int a5), (7, .int a7)]) (tat ok_X8_endOfDuel_1 (i := 17) (q := 106) rfl rfl) (Nat.le_of_ble_eq_true rfl) rfl <|
    V_pick [2, 3, 4, 5, 6, 0, 7] rfl (V_X8_eod2_106_1 hr0 hl hg hb5 hk (jx (P := P) kk (Eq.trans (if_pos c5) (if_neg c6))))))
def F_X8_eod2_112 (I : WI) (r0 : Nat) (a1 : Int64) (a3 : Int32) (a4 : Int32) (a6 : Int32) : Int32 :=
  a6
theorem V_X8_eod2_112  {I : WI} {L : WL} {r0 : Nat} {a1 : Int64} {a3 : Int32} {a4 : Int32} {a6 : Int32} {P : Int32 → Prop} {t : Tg} (hr0 : isX0 r0) (hl : a3.toInt ≤ 2) (hg : ¬ a3 < 1) (hr : ∀ v, P v → t = (some (.int v), ly0, I, L, R0)) (kk : P (F_X8_eod2_112 I r0 a1 a3 a4 a6)) : V (zM x_X8_endOfDuel 7 0 0 t) 112 [(0, .ref r0), (1, .long a1), (3, .int a3), (4, .int a4), (6, .int a6)] [] ly0 I L R0 0 0 :=
  V_iload (tat ok_X8_endOfDuel_1 (i := 20) (q := 114) rfl rfl) 4 rfl <|
    V_iret (tat ok_X8_endOfDuel_1 (i := 21) (q := 115) rfl rfl) _ rfl (nar_int _) (hr a6 (jx (P := P) kk rfl)) ⟨(Nat.le_of_ble_eq_true rfl), (Nat.le_of_ble_eq_true rfl)⟩
def F_X8_eod2_50 (I : WI) (r0 : Nat) (a1 : Int64) (a3 : Int32) (a4 : Int32) (a5 : Int32) (a6 : Int32) (a7 : Int32) : Int32 :=
  (fun q : Int32 × Int32 => (F_X8_eod2_112 I r0 a1 a3 a4 (p2 q))) (fr0 (fun i x => (F_X8_eod2_61_1 I r0 a1 a3 a4 a5 i x)) (F_X0_linesOf I r0 a5) (fu a7 (F_X0_linesOf I r0 a5)) a7 a6)
theorem V_X8_eod2_50  {I : WI} {L : WL} {r0 : Nat} {a1 : Int64} {a3 : Int32} {a4 : Int32} {a5 : Int32} {a6 : Int32} {a7 : Int32} {P : Int32 → Prop} {t : Tg} (hr0 : isX0 r0) (hl : a3.toInt ≤ 2) (hg : ¬ a3 < 1) (hb5 : bz a5 = a5) (hb7 : bz a7 = a7) (hr : ∀ v, P v → t = (some (.int v), ly0, I, L, R0)) (kk : P (F_X8_eod2_50 I r0 a1 a3 a4 a5 a6 a7)) : V (zM x_X8_endOfDuel 7 0 0 t) 50 [(0, .ref r0), (1, .long a1), (3, .int a3), (4, .int a4), (5, .int a5), (6, .int a6), (7, .int a7)] [] ly0 I L R0 0 0 :=
  V_fr0 (fun i x => (F_X8_eod2_61_1 I r0 a1 a3 a4 a5 i x)) (F_X0_linesOf I r0 a5) (fun i x => V (zM x_X8_endOfDuel 7 0 0 t) 50 [(0, .ref r0), (1, .long a1), (3, .int a3), (4, .int a4), (5, .int a5), (6, .int x), (7, .int i)] [] ly0 I L R0 0 0) (fun i x => P ((F_X8_eod2_112 I r0 a1 a3 a4 x))) (c := a7) (s := a6) (fun i x kx kb => V_iload (tat ok_X8_endOfDuel_0 (i := 29) (q := 52) rfl rfl) 6 rfl <|
    V_aload_n (tat ok_X8_endOfDuel_0 (i := 30) (q := 53) rfl rfl) 0 rfl rfl <|
    V_iload (tat ok_X8_endOfDuel_0 (i := 31) (q := 55) rfl rfl) 4 rfl <|
    V_cv1 (ct_X0_linesOf I L r0 a5 hr0) mo_X0_linesOf (tat ok_X8_endOfDuel_0 (i := 32) (q := 58) rfl rfl) ml_X8_126 hr0 ⟨by decide, _, rfl, rfl⟩ ⟨(Nat.le_of_ble_eq_true rfl), (Nat.le_of_ble_eq_true rfl)⟩ ⟨(Nat.le_of_ble_eq_true rfl), (Nat.le_of_ble_eq_true rfl)⟩ (Nat.le_of_ble_eq_true rfl) <|
    V_icmp_ge (tat ok_X8_endOfDuel_0 (i := 33) (q := 61) rfl rfl) rfl (fun c0 => V_pick [0, 1, 2, 3, 5] rfl (V_X8_eod2_112 hr0 hl hg hr (kx c0))) (fun c0 => V_X8_eod2_61_1 (P := (fun x => (fun i x => V (zM x_X8_endOfDuel 7 0 0 t) 50 [(0, .ref r0), (1, .long a1), (3, .int a3), (4, .int a4), (5, .int a5), (6, .int x), (7, .int i)] [] ly0 I L R0 0 0) (i + 1) x)) hr0 hl hg hb5 (fun _ e => e) (kb c0))) kk
def F_X8_eod2_25 (I : WI) (r0 : Nat) (a1 : Int64) (a3 : Int32) (a4 : Int32) (s0 : Int32) : Int32 :=
  (if a4 = 0 then (F_X8_eod2_50 I r0 a1 a3 a4 s0 (G_1 I r0 a1 (a3 - 1) 1) 0) else (F_X8_eod2_50 I r0 a1 a3 a4 s0 (G_1 I r0 a1 (a3 - 1) 0) 0))
theorem V_X8_eod2_25  {I : WI} {L : WL} {r0 : Nat} {a1 : Int64} {a3 : Int32} {a4 : Int32} {s0 : Int32} {P : Int32 → Prop} {t : Tg} (hr0 : isX0 r0) (hl : a3.toInt ≤ 2) (hg : ¬ a3 < 1) (hs0 : bz s0 = s0) (hr : ∀ v, P v → t = (some (.int v), ly0, I, L, R0)) (kk : P (F_X8_eod2_25 I r0 a1 a3 a4 s0)) : V (zM x_X8_endOfDuel 7 0 0 t) 25 [(0, .ref r0), (1, .long a1), (3, .int a3), (4, .int a4)] [.int s0] ly0 I L R0 0 0 :=
  V_istore (lv' := [(5, .int s0), (0, .ref r0), (1, .long a1), (3, .int a3), (4, .int a4)]) (tat ok_X8_endOfDuel_0 (i := 14) (q := 27) rfl rfl) (Nat.le_of_ble_eq_true rfl) rfl <|
    V_aload_n (tat ok_X8_endOfDuel_0 (i := 15) (q := 28) rfl rfl) 1 rfl rfl <|
    V_lload_n (tat ok_X8_endOfDuel_0 (i := 16) (q := 29) rfl rfl) 2 rfl rfl <|
    V_iload_n (tat ok_X8_endOfDuel_0 (i := 17) (q := 30) rfl rfl) 3 rfl rfl <|
    V_iconst (tat ok_X8_endOfDuel_0 (i := 18) (q := 31) rfl rfl) ic_1 <|
    V_isub (tat ok_X8_endOfDuel_0 (i := 19) (q := 32) rfl rfl) <|
    V_iload (tat ok_X8_endOfDuel_0 (i := 20) (q := 34) rfl rfl) 4 rfl <|
    V_if_ne (tat ok_X8_endOfDuel_0 (i := 21) (q := 37) rfl rfl) rfl (fun c4 => V_iconst (tat ok_X8_endOfDuel_0 (i := 24) (q := 42) rfl rfl) ic_0 <|
    V_cs4 (ct_G1 I L r0 a1 (a3 - 1) 0 hr0 (du hg hl rfl)) mo_X8_endOfDuel (tat ok_X8_endOfDuel_0 (i := 25) (q := 45) rfl rfl) ml_X8_237 ⟨(Nat.le_of_ble_eq_true rfl), (Nat.le_of_ble_eq_true rfl)⟩ ⟨(Nat.le_of_ble_eq_true rfl), (Nat.le_of_ble_eq_true rfl)⟩ (Nat.le_of_ble_eq_true rfl) <|
    V_istore (lv' := [(6, .int (G_1 I r0 a1 (a3 - 1) 0)), (5, .int s0), (0, .ref r0), (1, .long a1), (3, .int a3), (4, .int a4)]) (tat ok_X8_endOfDuel_0 (i := 26) (q := 47) rfl rfl) (Nat.le_of_ble_eq_true rfl) rfl <|
    V_iconst (tat ok_X8_endOfDuel_0 (i := 27) (q := 48) rfl rfl) ic_0 <|
    V_istore (lv' := [(7, .int 0), (6, .int (G_1 I r0 a1 (a3 - 1) 0)), (5, .int s0), (0, .ref r0), (1, .long a1), (3, .int a3), (4, .int a4)]) (tat ok_X8_endOfDuel_0 (i := 28) (q := 50) rfl rfl) (Nat.le_of_ble_eq_true rfl) rfl <|
    V_pick [3, 4, 5, 6, 2, 1, 0] rfl (V_X8_eod2_50 hr0 hl hg hs0 rfl hr (jx (P := P) kk (if_neg c4)))) (fun c4 => V_iconst (tat ok_X8_endOfDuel_0 (i := 22) (q := 38) rfl rfl) ic_1 <|
    V_goto (tat ok_X8_endOfDuel_0 (i := 23) (q := 41) rfl rfl) rfl <|
    V_cs4 (ct_G1 I L r0 a1 (a3 - 1) 1 hr0 (du hg hl rfl)) mo_X8_endOfDuel (tat ok_X8_endOfDuel_0 (i := 25) (q := 45) rfl rfl) ml_X8_237 ⟨(Nat.le_of_ble_eq_true rfl), (Nat.le_of_ble_eq_true rfl)⟩ ⟨(Nat.le_of_ble_eq_true rfl), (Nat.le_of_ble_eq_true rfl)⟩ (Nat.le_of_ble_eq_true rfl) <|
    V_istore (lv' := [(6, .int (G_1 I r0 a1 (a3 - 1) 1)), (5, .int s0), (0, .ref r0), (1, .long a1), (3, .int a3), (4, .int a4)]) (tat ok_X8_endOfDuel_0 (i := 26) (q := 47) rfl rfl) (Nat.le_of_ble_eq_true rfl) rfl <|
    V_iconst (tat ok_X8_endOfDuel_0 (i := 27) (q := 48) rfl rfl) ic_0 <|
    V_istore (lv' := [(7, .int 0), (6, .int (G_1 I r0 a1 (a3 - 1) 1)), (5, .int s0), (0, .ref r0), (1, .long a1), (3, .int a3), (4, .int a4)]) (tat ok_X8_endOfDuel_0 (i := 28) (q := 50) rfl rfl) (Nat.le_of_ble_eq_true rfl) rfl <|
    V_pick [3, 4, 5, 6, 2, 1, 0] rfl (V_X8_eod2_50 hr0 hl hg hs0 rfl hr (jx (P := P) kk (if_pos c4))))
def F_X8_eod2 (I : WI) (r0 : Nat) (a1 : Int64) (a3 : Int32) (a4 : Int32) : Int32 :=
  (if a3 < 1 then (F_X8_eod2_10 I r0 a1 a3 a4) else (if a3 ≤ 4 then (if a4 = 0 then (F_X8_eod2_25 I r0 a1 a3 a4 1) else (F_X8_eod2_25 I r0 a1 a3 a4 0)) else (F_X8_eod2_10 I r0 a1 a3 a4)))
theorem V_X8_eod2  {I : WI} {L : WL} {r0 : Nat} {a1 : Int64} {a3 : Int32} {a4 : Int32}  {P : Int32 → Prop} {t : Tg} (hr0 : isX0 r0) (hl : a3.toInt ≤ 2) (hg : ¬ a3 < 1) (hr : ∀ v, P v → t = (some (.int v), ly0, I, L, R0)) (kk : P (F_X8_eod2 I r0 a1 a3 a4)) : V (zM x_X8_endOfDuel 7 0 0 t) 0 [(0, .ref r0), (1, .long a1), (3, .int a3), (4, .int a4)] [] ly0 I L R0 0 0 :=
  V_iload_n (tat ok_X8_endOfDuel_0 (i := 0) (q := 1) rfl rfl) 2 rfl rfl <|
    V_iconst (tat ok_X8_endOfDuel_0 (i := 1) (q := 2) rfl rfl) ic_1 <|
    V_icmp_lt (tat ok_X8_endOfDuel_0 (i := 2) (q := 5) rfl rfl) rfl (fun c1 => V_X8_eod2_10 hr0 hl hg hr (jx (P := P) kk (if_pos c1))) (fun c1 => V_iload_n (tat ok_X8_endOfDuel_0 (i := 3) (q := 6) rfl rfl) 2 rfl rfl <|
    V_iconst (tat ok_X8_endOfDuel_0 (i := 4) (q := 7) rfl rfl) ic_4 <|
    V_icmp_le (tat ok_X8_endOfDuel_0 (i := 5) (q := 10) rfl rfl) rfl (fun c2 => V_iload (tat ok_X8_endOfDuel_0 (i := 9) (q := 17) rfl rfl) 3 rfl <|
    V_if_eq (tat ok_X8_endOfDuel_0 (i := 10) (q := 20) rfl rfl) rfl (fun c3 => V_iconst (tat ok_X8_endOfDuel_0 (i := 13) (q := 25) rfl rfl) ic_1 <|
    V_X8_eod2_25 hr0 hl hg rfl hr (jx (P := P) kk (Eq.trans (if_neg c1) (Eq.trans (if_pos c2) (if_pos c3))))) (fun c3 => V_iconst (tat ok_X8_endOfDuel_0 (i := 11) (q := 21) rfl rfl) ic_0 <|
    V_goto (tat ok_X8_endOfDuel_0 (i := 12) (q := 24) rfl rfl) rfl <|
    V_X8_eod2_25 hr0 hl hg rfl hr (jx (P := P) kk (Eq.trans (if_neg c1) (Eq.trans (if_pos c2) (if_neg c3)))))) (fun c2 => V_X8_eod2_10 hr0 hl hg hr (jx (P := P) kk (Eq.trans (if_neg c1) (if_neg c2)))))
theorem ct_X8_eod2  (I : WI) (L : WL) (r0 : Nat) (a1 : Int64) (a3 : Int32) (a4 : Int32) (hr0 : isX0 r0) (hl : a3.toInt ≤ 2) (hg : ¬ a3 < 1) : Ct x_X8_endOfDuel 7 [.ref r0, .long a1, .int a3, .int a4] ly0 I L R0 0 0 (some (.int (F_X8_eod2 I r0 a1 a3 a4)), ly0, I, L, R0) :=
  Ct_of_V mo_X8_endOfDuel.1 (Nat.le_of_ble_eq_true rfl) (V_X8_eod2 (P := fun x => x = (F_X8_eod2 I r0 a1 a3 a4)) hr0 hl hg (fun _ e => by rw [e]) rfl)
def G_2 (I : WI) (r0 : Nat) (a1 : Int64) (a3 : Int32) (a4 : Int32) : Int32 := if a3 < 1 then G_0 I r0 a1 a3 a4 else F_X8_eod2 I r0 a1 a3 a4
theorem ct_G2 (I : WI) (L : WL) (r0 : Nat) (a1 : Int64) (a3 : Int32) (a4 : Int32) (hr0 : isX0 r0) (hl : a3.toInt ≤ 2) : Ct x_X8_endOfDuel 7 [.ref r0, .long a1, .int a3, .int a4] ly0 I L R0 0 0 (some (.int (G_2 I r0 a1 a3 a4)), ly0, I, L, R0) := by
  unfold G_2
  by_cases hg : a3 < 1
  · rw [if_pos hg]
    exact Ct_of_V mo_X8_endOfDuel.1 (Nat.le_of_ble_eq_true rfl) (V_iload_n (tat ok_X8_endOfDuel_0 (i := 0) (q := 1) rfl rfl) 2 rfl rfl <|
    V_iconst (tat ok_X8_endOfDuel_0 (i := 1) (q := 2) rfl rfl) ic_1 <|
    V_icmp_lt (tat ok_X8_endOfDuel_0 (i := 2) (q := 5) rfl rfl) rfl (fun _ => V_lload_n (tat ok_X8_endOfDuel_0 (i := 6) (q := 11) rfl rfl) 1 rfl rfl <|
    V_cs1 (ct_J13_bitCount_95d88 I L a1) mo_J13_bitCount_95d88 (tat ok_X8_endOfDuel_0 (i := 7) (q := 14) rfl rfl) ml_X8_322 ⟨(Nat.le_of_ble_eq_true rfl), (Nat.le_of_ble_eq_true rfl)⟩ ⟨(Nat.le_of_ble_eq_true rfl), (Nat.le_of_ble_eq_true rfl)⟩ (Nat.le_of_ble_eq_true rfl) <|
    V_iret (tat ok_X8_endOfDuel_0 (i := 8) (q := 15) rfl rfl) _ rfl (nar_int _) rfl ⟨(Nat.le_of_ble_eq_true rfl), (Nat.le_of_ble_eq_true rfl)⟩) (fun c => absurd hg c))
  · rw [if_neg hg]
    exact ct_X8_eod2 I L r0 a1 a3 a4 hr0 hl hg
def F_X8_eod3_10 (I : WI) (r0 : Nat) (a1 : Int64) (a3 : Int32) (a4 : Int32) : Int32 :=
  (F_J13_bitCount_95d88 a1)
