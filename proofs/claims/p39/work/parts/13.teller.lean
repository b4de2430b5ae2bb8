def F_X6_isLetter_17 (a0 : Int32) (s0 : Int32) : Int32 :=
  s0
theorem V_X6_isLetter_17  {I : WI} {L : WL} {a0 : Int32} {s0 : Int32} {P : Int32 → Prop} {t : Tg} (hs0 : bz s0 = s0) (hr : ∀ v, P v → t = (some (.int v), ly0, I, L, R0)) (kk : P (F_X6_isLetter_17 a0 s0)) : V (zM x_X6_isLetter 1 0 0 t) 17 [(0, .int a0)] [.int s0] ly0 I L R0 0 0 :=
  V_iret (tat ok_X6_isLetter_0 (i := 9) (q := 18) rfl rfl) _ rfl (bz_nf hs0).1 (hr s0 (jx (P := P) kk rfl)) ⟨(Nat.le_of_ble_eq_true rfl), (Nat.le_of_ble_eq_true rfl)⟩
def F_X6_isLetter_16 (a0 : Int32) : Int32 :=
  (F_X6_isLetter_17 a0 0)
theorem V_X6_isLetter_16  {I : WI} {L : WL} {a0 : Int32}  {P : Int32 → Prop} {t : Tg} (hr : ∀ v, P v → t = (some (.int v), ly0, I, L, R0)) (kk : P (F_X6_isLetter_16 a0)) : V (zM x_X6_isLetter 1 0 0 t) 16 [(0, .int a0)] [] ly0 I L R0 0 0 :=
  V_iconst (tat ok_X6_isLetter_0 (i := 8) (q := 17) rfl rfl) ic_0 <|
    V_X6_isLetter_17 rfl hr (jx (P := P) kk rfl)
def F_X6_isLetter (a0 : Int32) : Int32 :=
  (if a0 < 97 then (F_X6_isLetter_16 a0) else (if 122 < a0 then (F_X6_isLetter_16 a0) else (F_X6_isLetter_17 a0 1)))
theorem V_X6_isLetter  {I : WI} {L : WL} {a0 : Int32}  {P : Int32 → Prop} {t : Tg} (hr : ∀ v, P v → t = (some (.int v), ly0, I, L, R0)) (kk : P (F_X6_isLetter a0)) : V (zM x_X6_isLetter 1 0 0 t) 0 [(0, .int a0)] [] ly0 I L R0 0 0 :=
  V_iload_n (tat ok_X6_isLetter_0 (i := 0) (q := 1) rfl rfl) 0 rfl rfl <|
    V_bipush (tat ok_X6_isLetter_0 (i := 1) (q := 3) rfl rfl) bp_97 <|
    V_icmp_lt (tat ok_X6_isLetter_0 (i := 2) (q := 6) rfl rfl) rfl (fun c1 => V_X6_isLetter_16  hr (jx (P := P) kk (if_pos c1))) (fun c1 => V_iload_n (tat ok_X6_isLetter_0 (i := 3) (q := 7) rfl rfl) 0 rfl rfl <|
    V_bipush (tat ok_X6_isLetter_0 (i := 4) (q := 9) rfl rfl) bp_122 <|
    V_icmp_gt (tat ok_X6_isLetter_0 (i := 5) (q := 12) rfl rfl) rfl (fun c2 => V_X6_isLetter_16  hr (jx (P := P) kk (Eq.trans (if_neg c1) (if_pos c2)))) (fun c2 => V_iconst (tat ok_X6_isLetter_0 (i := 6) (q := 13) rfl rfl) ic_1 <|
    V_goto (tat ok_X6_isLetter_0 (i := 7) (q := 16) rfl rfl) rfl <|
    V_X6_isLetter_17 rfl hr (jx (P := P) kk (Eq.trans (if_neg c1) (if_neg c2)))))
theorem ct_X6_isLetter  (I : WI) (L : WL) (a0 : Int32)  : Ct x_X6_isLetter 1 [.int a0] ly0 I L R0 0 0 (some (.int (F_X6_isLetter a0)), ly0, I, L, R0) :=
  Ct_of_V mo_X6_isLetter.1 (Nat.le_of_ble_eq_true rfl) (V_X6_isLetter (P := fun x => x = (F_X6_isLetter a0))  (fun _ e => by rw [e]) rfl)
def F_X6_isFigure_17 (a0 : Int32) (s0 : Int32) : Int32 :=
  s0
theorem V_X6_isFigure_17  {I : WI} {L : WL} {a0 : Int32} {s0 : Int32} {P : Int32 → Prop} {t : Tg} (hs0 : bz s0 = s0) (hr : ∀ v, P v → t = (some (.int v), ly0, I, L, R0)) (kk : P (F_X6_isFigure_17 a0 s0)) : V (zM x_X6_isFigure 1 0 0 t) 17 [(0, .int a0)] [.int s0] ly0 I L R0 0 0 :=
  V_iret (tat ok_X6_isFigure_0 (i := 9) (q := 18) rfl rfl) _ rfl (bz_nf hs0).1 (hr s0 (jx (P := P) kk rfl)) ⟨(Nat.le_of_ble_eq_true rfl), (Nat.le_of_ble_eq_true rfl)⟩
def F_X6_isFigure_16 (a0 : Int32) : Int32 :=
  (F_X6_isFigure_17 a0 0)
theorem V_X6_isFigure_16  {I : WI} {L : WL} {a0 : Int32}  {P : Int32 → Prop} {t : Tg} (hr : ∀ v, P v → t = (some (.int v), ly0, I, L, R0)) (kk : P (F_X6_isFigure_16 a0)) : V (zM x_X6_isFigure 1 0 0 t) 16 [(0, .int a0)] [] ly0 I L R0 0 0 :=
  V_iconst (tat ok_X6_isFigure_0 (i := 8) (q := 17) rfl rfl) ic_0 <|
    V_X6_isFigure_17 rfl hr (jx (P := P) kk rfl)
def F_X6_isFigure (a0 : Int32) : Int32 :=
  (if a0 < 48 then (F_X6_isFigure_16 a0) else (if 57 < a0 then (F_X6_isFigure_16 a0) else (F_X6_isFigure_17 a0 1)))
theorem V_X6_isFigure  {I : WI} {L : WL} {a0 : Int32}  {P : Int32 → Prop} {t : Tg} (hr : ∀ v, P v → t = (some (.int v), ly0, I, L, R0)) (kk : P (F_X6_isFigure a0)) : V (zM x_X6_isFigure 1 0 0 t) 0 [(0, .int a0)] [] ly0 I L R0 0 0 :=
  V_iload_n (tat ok_X6_isFigure_0 (i := 0) (q := 1) rfl rfl) 0 rfl rfl <|
    V_bipush (tat ok_X6_isFigure_0 (i := 1) (q := 3) rfl rfl) bp_48 <|
    V_icmp_lt (tat ok_X6_isFigure_0 (i := 2) (q := 6) rfl rfl) rfl (fun c1 => V_X6_isFigure_16  hr (jx (P := P) kk (if_pos c1))) (fun c1 => V_iload_n (tat ok_X6_isFigure_0 (i := 3) (q := 7) rfl rfl) 0 rfl rfl <|
    V_bipush (tat ok_X6_isFigure_0 (i := 4) (q := 9) rfl rfl) bp_57 <|
    V_icmp_gt (tat ok_X6_isFigure_0 (i := 5) (q := 12) rfl rfl) rfl (fun c2 => V_X6_isFigure_16  hr (jx (P := P) kk (Eq.trans (if_neg c1) (if_pos c2)))) (fun c2 => V_iconst (tat ok_X6_isFigure_0 (i := 6) (q := 13) rfl rfl) ic_1 <|
    V_goto (tat ok_X6_isFigure_0 (i := 7) (q := 16) rfl rfl) rfl <|
    V_X6_isFigure_17 rfl hr (jx (P := P) kk (Eq.trans (if_neg c1) (if_neg c2)))))
theorem ct_X6_isFigure  (I : WI) (L : WL) (a0 : Int32)  : Ct x_X6_isFigure 1 [.int a0] ly0 I L R0 0 0 (some (.int (F_X6_isFigure a0)), ly0, I, L, R0) :=
  Ct_of_V mo_X6_isFigure.1 (Nat.le_of_ble_eq_true rfl) (V_X6_isFigure (P := fun x => x = (F_X6_isFigure a0))  (fun _ e => by rw [e]) rfl)
def F_X6_refuse_20 (I : WI) (a1 : Int32) : (Int32 × WI) :=
  (0, I)
theorem V_X6_refuse_20  {I : WI} {L : WL} {a1 : Int32}  {P : (Int32 × WI) → Prop} {t : Tg} (hr : ∀ v, P v → t = (some (.int (p1 v)), ly0, (p2 v), L, R0)) (kk : P (F_X6_refuse_20 I a1)) : V (zM x_X6_refuse 1 0 0 t) 20 [(0, .ref 11), (1, .int a1)] [] ly0 I L R0 0 0 :=
  V_iconst (tat ok_X6_refuse_0 (i := 10) (q := 21) rfl rfl) ic_0 <|
    V_iret (tat ok_X6_refuse_0 (i := 11) (q := 22) rfl rfl) _ rfl rfl (hr (0, I) (jx (P := P) kk rfl)) ⟨(Nat.le_of_ble_eq_true rfl), (Nat.le_of_ble_eq_true rfl)⟩
def F_X6_refuse (I : WI) (a1 : Int32) : (Int32 × WI) :=
  (if (I 11 3) = 0 then (F_X6_refuse_20 (u2 (u2 I 11 3 a1) 11 5 ((u2 I 11 3 a1) 11 7)) a1) else (F_X6_refuse_20 I a1))
theorem V_X6_refuse  {I : WI} {L : WL} {a1 : Int32}  {P : (Int32 × WI) → Prop} {t : Tg} (hr : ∀ v, P v → t = (some (.int (p1 v)), ly0, (p2 v), L, R0)) (kk : P (F_X6_refuse I a1)) : V (zM x_X6_refuse 1 0 0 t) 0 [(0, .ref 11), (1, .int a1)] [] ly0 I L R0 0 0 :=
  V_aload_n (tat ok_X6_refuse_0 (i := 0) (q := 1) rfl rfl) 0 rfl rfl <|
    V_getI (tat ok_X6_refuse_0 (i := 1) (q := 4) rfl rfl) fk_X6_40 rfl <|
    V_if_ne (tat ok_X6_refuse_0 (i := 2) (q := 7) rfl rfl) rfl (fun c1 => V_X6_refuse_20  hr (jx (P := P) kk (if_neg c1))) (fun c1 => V_aload_n (tat ok_X6_refuse_0 (i := 3) (q := 8) rfl rfl) 0 rfl rfl <|
    V_iload_n (tat ok_X6_refuse_0 (i := 4) (q := 9) rfl rfl) 1 rfl rfl <|
    V_putI (tat ok_X6_refuse_0 (i := 5) (q := 12) rfl rfl) fk_X6_40 rfl rfl <|
    V_aload_n (tat ok_X6_refuse_0 (i := 6) (q := 13) rfl rfl) 0 rfl rfl <|
    V_aload_n (tat ok_X6_refuse_0 (i := 7) (q := 14) rfl rfl) 0 rfl rfl <|
    V_getI (tat ok_X6_refuse_0 (i := 8) (q := 17) rfl rfl) fk_X6_59 rfl <|
    V_putI (tat ok_X6_refuse_0 (i := 9) (q := 20) rfl rfl) fk_X6_44 rfl rfl <|
    V_X6_refuse_20  hr (jx (P := P) kk (if_pos c1)))
theorem ct_X6_refuse  (I : WI) (L : WL) (a1 : Int32)  : Ct x_X6_refuse 1 [.ref 11, .int a1] ly0 I L R0 0 0 (some (.int (p1 (F_X6_refuse I a1))), ly0, (p2 (F_X6_refuse I a1)), L, R0) :=
  Ct_of_V mo_X6_refuse.1 (Nat.le_of_ble_eq_true rfl) (V_X6_refuse (P := fun x => x = (F_X6_refuse I a1))  (fun _ e => by rw [e]) rfl)
def F_X6_stepNumber_10_1 (I : WI) : Option (WI ⊕ WI) :=
  (if (I 9 0) ≤ (I 11 8) then some (.inl I) else (if (F_X6_isFigure (F_X5_byteAt I (I 11 8))) = 0 then some (.inl I) else some (.inr (u2 (u2 I 11 9 (((10 * (I 11 9)) + (F_X5_byteAt I (I 11 8))) - 48)) 11 8 (((u2 I 11 9 (((10 * (I 11 9)) + (F_X5_byteAt I (I 11 8))) - 48)) 11 8) + 1)))))
theorem V_X6_stepNumber_10_1  {I : WI} {L : WL}   {P : (WI ⊕ WI) → Prop} {t : Tg} (he : ∀ x : WI, P (.inl x) → V (zM x_X6_stepNumber 2 0 0 t) 80 [(0, .ref 11)] [] ly0 x L R0 0 0) (hk : ∀ x : WI, P (.inr x) → V (zM x_X6_stepNumber 2 0 0 t) 10 [(0, .ref 11)] [] ly0 x L R0 0 0) : oP P (F_X6_stepNumber_10_1 I) → V (zM x_X6_stepNumber 2 0 0 t) 10 [(0, .ref 11)] [] ly0 I L R0 0 0 :=
  fun _ =>
  have kq : (oP P (F_X6_stepNumber_10_1 I)) ∧ True := ⟨by assumption, trivial⟩
  V_aload_n (tat ok_X6_stepNumber_0 (i := 6) (q := 11) rfl rfl) 0 rfl rfl <|
    V_getI (tat ok_X6_stepNumber_0 (i := 7) (q := 14) rfl rfl) fk_X6_47 rfl <|
    V_aload_n (tat ok_X6_stepNumber_0 (i := 8) (q := 15) rfl rfl) 0 rfl rfl <|
    V_getR (tat ok_X6_stepNumber_0 (i := 9) (q := 18) rfl rfl) fk_X6_30 rfl rfl <|
    V_getI (tat ok_X6_stepNumber_0 (i := 10) (q := 21) rfl rfl) fk_X6_165 rfl <|
    V_icmp_ge (tat ok_X6_stepNumber_0 (i := 11) (q := 24) rfl rfl) rfl (fun c1 => he I (jq (P := oP P) kq (if_pos c1))) (fun c1 => V_aload_n (tat ok_X6_stepNumber_0 (i := 12) (q := 25) rfl rfl) 0 rfl rfl <|
    V_getR (tat ok_X6_stepNumber_0 (i := 13) (q := 28) rfl rfl) fk_X6_30 rfl rfl <|
    V_aload_n (tat ok_X6_stepNumber_0 (i := 14) (q := 29) rfl rfl) 0 rfl rfl <|
    V_getI (tat ok_X6_stepNumber_0 (i := 15) (q := 32) rfl rfl) fk_X6_47 rfl <|
    V_cv1 (ct_X5_byteAt I L (I 11 8) ) mo_X5_byteAt (tat ok_X6_stepNumber_0 (i := 16) (q := 35) rfl rfl) ml_X6_105 rfl ⟨by decide, _, rfl, rfl⟩ ⟨(Nat.le_of_ble_eq_true rfl), (Nat.le_of_ble_eq_true rfl)⟩ ⟨(Nat.le_of_ble_eq_true rfl), (Nat.le_of_ble_eq_true rfl)⟩ (Nat.le_of_ble_eq_true rfl) <|
    V_cs1 (ct_X6_isFigure I L (F_X5_byteAt I (I 11 8)) ) mo_X6_isFigure (tat ok_X6_stepNumber_0 (i := 17) (q := 38) rfl rfl) ml_X6_170 ⟨(Nat.le_of_ble_eq_true rfl), (Nat.le_of_ble_eq_true rfl)⟩ ⟨(Nat.le_of_ble_eq_true rfl), (Nat.le_of_ble_eq_true rfl)⟩ (Nat.le_of_ble_eq_true rfl) <|
    V_if_eq (tat ok_X6_stepNumber_0 (i := 18) (q := 41) rfl rfl) rfl (fun c2 => he I (jq (P := oP P) kq (Eq.trans (if_neg c1) (if_pos c2)))) (fun c2 => V_aload_n (tat ok_X6_stepNumber_0 (i := 19) (q := 42) rfl rfl) 0 rfl rfl <|
    V_bipush (tat ok_X6_stepNumber_0 (i := 20) (q := 44) rfl rfl) bp_10 <|
    V_aload_n (tat ok_X6_stepNumber_0 (i := 21) (q := 45) rfl rfl) 0 rfl rfl <|
    V_getI (tat ok_X6_stepNumber_0 (i := 22) (q := 48) rfl rfl) fk_X6_126 rfl <|
    V_imul (tat ok_X6_stepNumber_0 (i := 23) (q := 49) rfl rfl) <|
    V_aload_n (tat ok_X6_stepNumber_0 (i := 24) (q := 50) rfl rfl) 0 rfl rfl <|
    V_getR (tat ok_X6_stepNumber_0 (i := 25) (q := 53) rfl rfl) fk_X6_30 rfl rfl <|
    V_aload_n (tat ok_X6_stepNumber_0 (i := 26) (q := 54) rfl rfl) 0 rfl rfl <|
    V_getI (tat ok_X6_stepNumber_0 (i := 27) (q := 57) rfl rfl) fk_X6_47 rfl <|
    V_cv1 (ct_X5_byteAt I L (I 11 8) ) mo_X5_byteAt (tat ok_X6_stepNumber_0 (i := 28) (q := 60) rfl rfl) ml_X6_105 rfl ⟨by decide, _, rfl, rfl⟩ ⟨(Nat.le_of_ble_eq_true rfl), (Nat.le_of_ble_eq_true rfl)⟩ ⟨(Nat.le_of_ble_eq_true rfl), (Nat.le_of_ble_eq_true rfl)⟩ (Nat.le_of_ble_eq_true rfl) <|
    V_iadd (tat ok_X6_stepNumber_0 (i := 29) (q := 61) rfl rfl) <|
    V_bipush (tat ok_X6_stepNumber_0 (i := 30) (q := 63) rfl rfl) bp_48 <|
    V_isub (tat ok_X6_stepNumber_0 (i := 31) (q := 64) rfl rfl) <|
    V_putI (tat ok_X6_stepNumber_0 (i := 32) (q := 67) rfl rfl) fk_X6_126 rfl rfl <|
    V_aload_n (tat ok_X6_stepNumber_0 (i := 33) (q := 68) rfl rfl) 0 rfl rfl <|
    V_dup (tat ok_X6_stepNumber_0 (i := 34) (q := 69) rfl rfl) rfl <|
    V_getI (tat ok_X6_stepNumber_0 (i := 35) (q := 72) rfl rfl) fk_X6_47 rfl <|
    V_iconst (tat ok_X6_stepNumber_0 (i := 36) (q := 73) rfl rfl) ic_1 <|
    V_iadd (tat ok_X6_stepNumber_0 (i := 37) (q := 74) rfl rfl) <|
    V_putI (tat ok_X6_stepNumber_0 (i := 38) (q := 77) rfl rfl) fk_X6_47 rfl rfl <|
    V_goto (tat ok_X6_stepNumber_0 (i := 39) (q := 80) rfl rfl) rfl <|
    hk (u2 (u2 I 11 9 (((10 * (I 11 9)) + (F_X5_byteAt I (I 11 8))) - 48)) 11 8 (((u2 I 11 9 (((10 * (I 11 9)) + (F_X5_byteAt I (I 11 8))) - 48)) 11 8) + 1)) (jq (P := oP P) kq (Eq.trans (if_neg c1) (if_neg c2)))))
def F_X6_stepNumber_104 (I : WI) : Option WI :=
  some I
theorem V_X6_stepNumber_104  {I : WI} {L : WL}   {P : WI → Prop} {t : Tg} (hr : ∀ v, P v → t = (none, ly0, v, L, R0)) : oP P (F_X6_stepNumber_104 I) → V (zM x_X6_stepNumber 2 0 0 t) 104 [(0, .ref 11)] [] ly0 I L R0 0 0 :=
  fun _ =>
  have kq : (oP P (F_X6_stepNumber_104 I)) ∧ True := ⟨by assumption, trivial⟩
  V_vret (tat ok_X6_stepNumber_1 (i := 14) (q := 105) rfl rfl) rfl (hr I (jq (P := oP P) kq rfl)) ⟨(Nat.le_of_ble_eq_true rfl), (Nat.le_of_ble_eq_true rfl)⟩
def F_X6_stepNumber_80 (I : WI) : Option WI :=
  (if ((I 11 8) - (I 11 7)) ≤ 2 then (F_X6_stepNumber_104 I) else (F_X6_stepNumber_104 (p2 (F_X6_refuse (u2 I 11 6 4) 1))))
theorem V_X6_stepNumber_80  {I : WI} {L : WL}   {P : WI → Prop} {t : Tg} (hr : ∀ v, P v → t = (none, ly0, v, L, R0)) : oP P (F_X6_stepNumber_80 I) → V (zM x_X6_stepNumber 2 0 0 t) 80 [(0, .ref 11)] [] ly0 I L R0 0 0 :=
  fun _ =>
  have kq : (oP P (F_X6_stepNumber_80 I)) ∧ True := ⟨by assumption, trivial⟩
  V_aload_n (tat ok_X6_stepNumber_1 (i := 0) (q := 81) rfl rfl) 0 rfl rfl <|
    V_getI (tat ok_X6_stepNumber_1 (i := 1) (q := 84) rfl rfl) fk_X6_47 rfl <|
    V_aload_n (tat ok_X6_stepNumber_1 (i := 2) (q := 85) rfl rfl) 0 rfl rfl <|
    V_getI (tat ok_X6_stepNumber_1 (i := 3) (q := 88) rfl rfl) fk_X6_59 rfl <|
    V_isub (tat ok_X6_stepNumber_1 (i := 4) (q := 89) rfl rfl) <|
    V_iconst (tat ok_X6_stepNumber_1 (i := 5) (q := 90) rfl rfl) ic_2 <|
    V_icmp_le (tat ok_X6_stepNumber_1 (i := 6) (q := 93) rfl rfl) rfl (fun c3 => V_X6_stepNumber_104  hr (jq (P := oP P) kq (if_pos c3))) (fun c3 => V_aload_n (tat ok_X6_stepNumber_1 (i := 7) (q := 94) rfl rfl) 0 rfl rfl <|
    V_iconst (tat ok_X6_stepNumber_1 (i := 8) (q := 95) rfl rfl) ic_4 <|
    V_putI (tat ok_X6_stepNumber_1 (i := 9) (q := 98) rfl rfl) fk_X6_65 rfl rfl <|
    V_aload_n (tat ok_X6_stepNumber_1 (i := 10) (q := 99) rfl rfl) 0 rfl rfl <|
    V_iconst (tat ok_X6_stepNumber_1 (i := 11) (q := 100) rfl rfl) ic_1 <|
    V_cv1 (ct_X6_refuse (u2 I 11 6 4) L 1 ) mo_X6_refuse (tat ok_X6_stepNumber_1 (i := 12) (q := 103) rfl rfl) ml_X6_85 rfl ⟨by decide, _, rfl, rfl⟩ ⟨(Nat.le_of_ble_eq_true rfl), (Nat.le_of_ble_eq_true rfl)⟩ ⟨(Nat.le_of_ble_eq_true rfl), (Nat.le_of_ble_eq_true rfl)⟩ (Nat.le_of_ble_eq_true rfl) <|
    V_pop (tat ok_X6_stepNumber_1 (i := 13) (q := 104) rfl rfl) rfl <|
    V_X6_stepNumber_104  hr (jq (P := oP P) kq (if_neg c3)))
def F_X6_stepNumber_10 (I : WI) : Option WI :=
  (lpp (fun x => (F_X6_stepNumber_10_1 x)) 4294967296 I).bind (fun q => (F_X6_stepNumber_80 q))
theorem V_X6_stepNumber_10  {I : WI} {L : WL}   {P : WI → Prop} {t : Tg} (hr : ∀ v, P v → t = (none, ly0, v, L, R0)) (kk : oP P (F_X6_stepNumber_10 I)) : V (zM x_X6_stepNumber 2 0 0 t) 10 [(0, .ref 11)] [] ly0 I L R0 0 0 :=
  V_lpp (fun x => (F_X6_stepNumber_10_1 x)) (fun x => V (zM x_X6_stepNumber 2 0 0 t) 10 [(0, .ref 11)] [] ly0 x L R0 0 0) (fun x => oP P ((F_X6_stepNumber_80 x))) (s := I) (fun x e0 => V_X6_stepNumber_10_1 (P := Sum.elim (fun x => oP P ((F_X6_stepNumber_80 x))) (fun x => V (zM x_X6_stepNumber 2 0 0 t) 10 [(0, .ref 11)] [] ly0 x L R0 0 0))  (fun x e => V_X6_stepNumber_80  hr e) (fun _ e => e) e0) (oP_bind (f := fun q => _) kk)
def F_X6_stepNumber (I : WI) : Option WI :=
  (F_X6_stepNumber_10 (u2 (u2 I 11 6 2) 11 9 0))
theorem V_X6_stepNumber  {I : WI} {L : WL}   {P : WI → Prop} {t : Tg} (hr : ∀ v, P v → t = (none, ly0, v, L, R0)) : oP P (F_X6_stepNumber I) → V (zM x_X6_stepNumber 2 0 0 t) 0 [(0, .ref 11)] [] ly0 I L R0 0 0 :=
  fun _ =>
  have kq : (oP P (F_X6_stepNumber I)) ∧ True := ⟨by assumption, trivial⟩
  V_aload_n (tat ok_X6_stepNumber_0 (i := 0) (q := 1) rfl rfl) 0 rfl rfl <|
    V_iconst (tat ok_X6_stepNumber_0 (i := 1) (q := 2) rfl rfl) ic_2 <|
    V_putI (tat ok_X6_stepNumber_0 (i := 2) (q := 5) rfl rfl) fk_X6_65 rfl rfl <|
    V_aload_n (tat ok_X6_stepNumber_0 (i := 3) (q := 6) rfl rfl) 0 rfl rfl <|
    V_iconst (tat ok_X6_stepNumber_0 (i := 4) (q := 7) rfl rfl) ic_0 <|
    V_putI (tat ok_X6_stepNumber_0 (i := 5) (q := 10) rfl rfl) fk_X6_126 rfl rfl <|
    V_X6_stepNumber_10  hr (jq (P := oP P) kq rfl)
theorem ct_X6_stepNumber  (I : WI) (L : WL)  {v : WI} (h : (F_X6_stepNumber I) = some v) : Ct x_X6_stepNumber 2 [.ref 11] ly0 I L R0 0 0 (none, ly0, v, L, R0) :=
  Ct_of_V mo_X6_stepNumber.1 (Nat.le_of_ble_eq_true rfl) (V_X6_stepNumber (P := fun x => x = v)  (fun _ e => by rw [e]) (by rw [h]; exact rfl))
def F_X6_step_0_1 (I : WI) : Option (WI ⊕ WI) :=
  (if (I 9 0) ≤ (I 11 8) then some (.inl I) else (if (F_X5_byteAt I (I 11 8)) = 32 then some (.inr (u2 I 11 8 ((I 11 8) + 1))) else some (.inl I)))
theorem V_X6_step_0_1  {I : WI} {L : WL}   {P : (WI ⊕ WI) → Prop} {t : Tg} (he : ∀ x : WI, P (.inl x) → V (zM x_X6_step 3 0 0 t) 43 [(0, .ref 11)] [] ly0 x L R0 0 0) (hk : ∀ x : WI, P (.inr x) → V (zM x_X6_step 3 0 0 t) 0 [(0, .ref 11)] [] ly0 x L R0 0 0) : oP P (F_X6_step_0_1 I) → V (zM x_X6_step 3 0 0 t) 0 [(0, .ref 11)] [] ly0 I L R0 0 0 :=
  fun _ =>
  have kq : (oP P (F_X6_step_0_1 I)) ∧ True := ⟨by assumption, trivial⟩
  V_aload_n (tat ok_X6_step_0 (i := 0) (q := 1) rfl rfl) 0 rfl rfl <|
    V_getI (tat ok_X6_step_0 (i := 1) (q := 4) rfl rfl) fk_X6_47 rfl <|
    V_aload_n (tat ok_X6_step_0 (i := 2) (q := 5) rfl rfl) 0 rfl rfl <|
    V_getR (tat ok_X6_step_0 (i := 3) (q := 8) rfl rfl) fk_X6_30 rfl rfl <|
    V_getI (tat ok_X6_step_0 (i := 4) (q := 11) rfl rfl) fk_X6_165 rfl <|
    V_icmp_ge (tat ok_X6_step_0 (i := 5) (q := 14) rfl rfl) rfl (fun c1 => he I (jq (P := oP P) kq (if_pos c1))) (fun c1 => V_aload_n (tat ok_X6_step_0 (i := 6) (q := 15) rfl rfl) 0 rfl rfl <|
    V_getR (tat ok_X6_step_0 (i := 7) (q := 18) rfl rfl) fk_X6_30 rfl rfl <|
    V_aload_n (tat ok_X6_step_0 (i := 8) (q := 19) rfl rfl) 0 rfl rfl <|
    V_getI (tat ok_X6_step_0 (i := 9) (q := 22) rfl rfl) fk_X6_47 rfl <|
    V_cv1 (ct_X5_byteAt I L (I 11 8) ) mo_X5_byteAt (tat ok_X6_step_0 (i := 10) (q := 25) rfl rfl) ml_X6_105 rfl ⟨by decide, _, rfl, rfl⟩ ⟨(Nat.le_of_ble_eq_true rfl), (Nat.le_of_ble_eq_true rfl)⟩ ⟨(Nat.le_of_ble_eq_true rfl), (Nat.le_of_ble_eq_true rfl)⟩ (Nat.le_of_ble_eq_true rfl) <|
    V_bipush (tat ok_X6_step_0 (i := 11) (q := 27) rfl rfl) bp_32 <|
    V_icmp_ne (tat ok_X6_step_0 (i := 12) (q := 30) rfl rfl) rfl (fun c2 => he I (jq (P := oP P) kq (Eq.trans (if_neg c1) (if_neg c2)))) (fun c2 => V_aload_n (tat ok_X6_step_0 (i := 13) (q := 31) rfl rfl) 0 rfl rfl <|
    V_dup (tat ok_X6_step_0 (i := 14) (q := 32) rfl rfl) rfl <|
    V_getI (tat ok_X6_step_0 (i := 15) (q := 35) rfl rfl) fk_X6_47 rfl <|
    V_iconst (tat ok_X6_step_0 (i := 16) (q := 36) rfl rfl) ic_1 <|
    V_iadd (tat ok_X6_step_0 (i := 17) (q := 37) rfl rfl) <|
    V_putI (tat ok_X6_step_0 (i := 18) (q := 40) rfl rfl) fk_X6_47 rfl rfl <|
    V_goto (tat ok_X6_step_0 (i := 19) (q := 43) rfl rfl) rfl <|
    hk (u2 I 11 8 ((I 11 8) + 1)) (jq (P := oP P) kq (Eq.trans (if_neg c1) (if_pos c2)))))
def F_X6_step_208 (I : WI) : Option WI :=
  some I
theorem V_X6_step_208  {I : WI} {L : WL}   {P : WI → Prop} {t : Tg} (hr : ∀ v, P v → t = (none, ly0, v, L, R0)) : oP P (F_X6_step_208 I) → V (zM x_X6_step 3 0 0 t) 208 [(0, .ref 11)] [] ly0 I L R0 0 0 :=
  fun _ =>
  have kq : (oP P (F_X6_step_208 I)) ∧ True := ⟨by assumption, trivial⟩
  V_vret (tat ok_X6_step_2 (i := 18) (q := 209) rfl rfl) rfl (hr I (jq (P := oP P) kq rfl)) ⟨(Nat.le_of_ble_eq_true rfl), (Nat.le_of_ble_eq_true rfl)⟩
def F_X6_step_129_2 (I : WI) : Option (WI ⊕ WI) :=
  (if (I 9 0) ≤ (I 11 8) then some (.inl I) else (if (F_X6_isLetter (F_X5_byteAt I (I 11 8))) = 0 then some (.inl I) else some (.inr (u2 I 11 8 ((I 11 8) + 1)))))
theorem V_X6_step_129_2  {I : WI} {L : WL}   {P : (WI ⊕ WI) → Prop} {t : Tg} (he : ∀ x : WI, P (.inl x) → V (zM x_X6_step 3 0 0 t) 208 [(0, .ref 11)] [] ly0 x L R0 0 0) (hk : ∀ x : WI, P (.inr x) → V (zM x_X6_step 3 0 0 t) 129 [(0, .ref 11)] [] ly0 x L R0 0 0) : oP P (F_X6_step_129_2 I) → V (zM x_X6_step 3 0 0 t) 129 [(0, .ref 11)] [] ly0 I L R0 0 0 :=
  fun _ =>
  have kq : (oP P (F_X6_step_129_2 I)) ∧ True := ⟨by assumption, trivial⟩
  V_aload_n (tat ok_X6_step_1 (i := 21) (q := 130) rfl rfl) 0 rfl rfl <|
    V_getI (tat ok_X6_step_1 (i := 22) (q := 133) rfl rfl) fk_X6_47 rfl <|
    V_aload_n (tat ok_X6_step_1 (i := 23) (q := 134) rfl rfl) 0 rfl rfl <|
    V_getR (tat ok_X6_step_1 (i := 24) (q := 137) rfl rfl) fk_X6_30 rfl rfl <|
    V_getI (tat ok_X6_step_1 (i := 25) (q := 140) rfl rfl) fk_X6_165 rfl <|
    V_icmp_ge (tat ok_X6_step_1 (i := 26) (q := 143) rfl rfl) rfl (fun c8 => he I (jq (P := oP P) kq (if_pos c8))) (fun c8 => V_aload_n (tat ok_X6_step_1 (i := 27) (q := 144) rfl rfl) 0 rfl rfl <|
    V_getR (tat ok_X6_step_1 (i := 28) (q := 147) rfl rfl) fk_X6_30 rfl rfl <|
    V_aload_n (tat ok_X6_step_1 (i := 29) (q := 148) rfl rfl) 0 rfl rfl <|
    V_getI (tat ok_X6_step_1 (i := 30) (q := 151) rfl rfl) fk_X6_47 rfl <|
    V_cv1 (ct_X5_byteAt I L (I 11 8) ) mo_X5_byteAt (tat ok_X6_step_1 (i := 31) (q := 154) rfl rfl) ml_X6_105 rfl ⟨by decide, _, rfl, rfl⟩ ⟨(Nat.le_of_ble_eq_true rfl), (Nat.le_of_ble_eq_true rfl)⟩ ⟨(Nat.le_of_ble_eq_true rfl), (Nat.le_of_ble_eq_true rfl)⟩ (Nat.le_of_ble_eq_true rfl) <|
    V_cs1 (ct_X6_isLetter I L (F_X5_byteAt I (I 11 8)) ) mo_X6_isLetter (tat ok_X6_step_1 (i := 32) (q := 157) rfl rfl) ml_X6_167 ⟨(Nat.le_of_ble_eq_true rfl), (Nat.le_of_ble_eq_true rfl)⟩ ⟨(Nat.le_of_ble_eq_true rfl), (Nat.le_of_ble_eq_true rfl)⟩ (Nat.le_of_ble_eq_true rfl) <|
    V_if_eq (tat ok_X6_step_1 (i := 33) (q := 160) rfl rfl) rfl (fun c9 => he I (jq (P := oP P) kq (Eq.trans (if_neg c8) (if_pos c9)))) (fun c9 => V_aload_n (tat ok_X6_step_1 (i := 34) (q := 161) rfl rfl) 0 rfl rfl <|
    V_dup (tat ok_X6_step_1 (i := 35) (q := 162) rfl rfl) rfl <|
    V_getI (tat ok_X6_step_1 (i := 36) (q := 165) rfl rfl) fk_X6_47 rfl <|
    V_iconst (tat ok_X6_step_1 (i := 37) (q := 166) rfl rfl) ic_1 <|
    V_iadd (tat ok_X6_step_1 (i := 38) (q := 167) rfl rfl) <|
    V_putI (tat ok_X6_step_1 (i := 39) (q := 170) rfl rfl) fk_X6_47 rfl rfl <|
    V_goto (tat ok_X6_step_2 (i := 0) (q := 173) rfl rfl) rfl <|
    hk (u2 I 11 8 ((I 11 8) + 1)) (jq (P := oP P) kq (Eq.trans (if_neg c8) (if_neg c9)))))
def F_X6_step_129 (I : WI) : Option WI :=
  (lpp (fun x => (F_X6_step_129_2 x)) 4294967296 I).bind (fun q => (F_X6_step_208 q))
theorem V_X6_step_129  {I : WI} {L : WL}   {P : WI → Prop} {t : Tg} (hr : ∀ v, P v → t = (none, ly0, v, L, R0)) (kk : oP P (F_X6_step_129 I)) : V (zM x_X6_step 3 0 0 t) 129 [(0, .ref 11)] [] ly0 I L R0 0 0 :=
  V_lpp (fun x => (F_X6_step_129_2 x)) (fun x => V (zM x_X6_step 3 0 0 t) 129 [(0, .ref 11)] [] ly0 x L R0 0 0) (fun x => oP P ((F_X6_step_208 x))) (s := I) (fun x e0 => V_X6_step_129_2 (P := Sum.elim (fun x => oP P ((F_X6_step_208 x))) (fun x => V (zM x_X6_step 3 0 0 t) 129 [(0, .ref 11)] [] ly0 x L R0 0 0))  (fun x e => V_X6_step_208  hr e) (fun _ e => e) e0) (oP_bind (f := fun q => _) kk)
def F_X6_step_43 (I : WI) : Option WI :=
  (if ((u2 I 11 7 (I 11 8)) 11 7) < ((u2 I 11 7 (I 11 8)) 9 0) then (if (F_X5_byteAt (u2 I 11 7 (I 11 8)) ((u2 I 11 7 (I 11 8)) 11 7)) = 59 then (F_X6_step_208 (u2 (u2 (u2 I 11 7 (I 11 8)) 11 6 3) 11 8 (((u2 (u2 I 11 7 (I 11 8)) 11 6 3) 11 8) + 1))) else (if (F_X6_isLetter (F_X5_byteAt (u2 I 11 7 (I 11 8)) ((u2 I 11 7 (I 11 8)) 11 7))) = 0 then (if (F_X6_isFigure (F_X5_byteAt (u2 I 11 7 (I 11 8)) ((u2 I 11 7 (I 11 8)) 11 7))) = 0 then (F_X6_step_208 (p2 (F_X6_refuse (u2 (u2 I 11 7 (I 11 8)) 11 6 4) 1))) else (Option.bind (F_X6_stepNumber (u2 I 11 7 (I 11 8))) (fun v7 => (F_X6_step_208 v7)))) else (F_X6_step_129 (u2 (u2 I 11 7 (I 11 8)) 11 6 1)))) else (F_X6_step_208 (u2 (u2 I 11 7 (I 11 8)) 11 6 0)))
theorem V_X6_step_43  {I : WI} {L : WL}   {P : WI → Prop} {t : Tg} (hr : ∀ v, P v → t = (none, ly0, v, L, R0)) : oP P (F_X6_step_43 I) → V (zM x_X6_step 3 0 0 t) 43 [(0, .ref 11)] [] ly0 I L R0 0 0 :=
  fun _ =>
  have kq : (oP P (F_X6_step_43 I)) ∧ True := ⟨by assumption, trivial⟩
  V_aload_n (tat ok_X6_step_0 (i := 20) (q := 44) rfl rfl) 0 rfl rfl <|
    V_aload_n (tat ok_X6_step_0 (i := 21) (q := 45) rfl rfl) 0 rfl rfl <|
    V_getI (tat ok_X6_step_0 (i := 22) (q := 48) rfl rfl) fk_X6_47 rfl <|
    V_putI (tat ok_X6_step_0 (i := 23) (q := 51) rfl rfl) fk_X6_59 rfl rfl <|
    V_aload_n (tat ok_X6_step_0 (i := 24) (q := 52) rfl rfl) 0 rfl rfl <|
    V_getI (tat ok_X6_step_0 (i := 25) (q := 55) rfl rfl) fk_X6_59 rfl <|
    V_aload_n (tat ok_X6_step_0 (i := 26) (q := 56) rfl rfl) 0 rfl rfl <|
    V_getR (tat ok_X6_step_0 (i := 27) (q := 59) rfl rfl) fk_X6_30 rfl rfl <|
    V_getI (tat ok_X6_step_0 (i := 28) (q := 62) rfl rfl) fk_X6_165 rfl <|
    V_icmp_lt (tat ok_X6_step_0 (i := 29) (q := 65) rfl rfl) rfl (fun c3 => V_aload_n (tat ok_X6_step_0 (i := 34) (q := 74) rfl rfl) 0 rfl rfl <|
    V_getR (tat ok_X6_step_0 (i := 35) (q := 77) rfl rfl) fk_X6_30 rfl rfl <|
    V_aload_n (tat ok_X6_step_0 (i := 36) (q := 78) rfl rfl) 0 rfl rfl <|
    V_getI (tat ok_X6_step_0 (i := 37) (q := 81) rfl rfl) fk_X6_59 rfl <|
    V_cv1 (ct_X5_byteAt (u2 I 11 7 (I 11 8)) L ((u2 I 11 7 (I 11 8)) 11 7) ) mo_X5_byteAt (tat ok_X6_step_0 (i := 38) (q := 84) rfl rfl) ml_X6_105 rfl ⟨by decide, _, rfl, rfl⟩ ⟨(Nat.le_of_ble_eq_true rfl), (Nat.le_of_ble_eq_true rfl)⟩ ⟨(Nat.le_of_ble_eq_true rfl), (Nat.le_of_ble_eq_true rfl)⟩ (Nat.le_of_ble_eq_true rfl) <|
    V_bipush (tat ok_X6_step_0 (i := 39) (q := 86) rfl rfl) bp_59 <|
    V_icmp_ne (tat ok_X6_step_1 (i := 0) (q := 89) rfl rfl) rfl (fun c4 => V_aload_n (tat ok_X6_step_1 (i := 11) (q := 108) rfl rfl) 0 rfl rfl <|
    V_getR (tat ok_X6_step_1 (i := 12) (q := 111) rfl rfl) fk_X6_30 rfl rfl <|
    V_aload_n (tat ok_X6_step_1 (i := 13) (q := 112) rfl rfl) 0 rfl rfl <|
    V_getI (tat ok_X6_step_1 (i := 14) (q := 115) rfl rfl) fk_X6_59 rfl <|
    V_cv1 (ct_X5_byteAt (u2 I 11 7 (I 11 8)) L ((u2 I 11 7 (I 11 8)) 11 7) ) mo_X5_byteAt (tat ok_X6_step_1 (i := 15) (q := 118) rfl rfl) ml_X6_105 rfl ⟨by decide, _, rfl, rfl⟩ ⟨(Nat.le_of_ble_eq_true rfl), (Nat.le_of_ble_eq_true rfl)⟩ ⟨(Nat.le_of_ble_eq_true rfl), (Nat.le_of_ble_eq_true rfl)⟩ (Nat.le_of_ble_eq_true rfl) <|
    V_cs1 (ct_X6_isLetter (u2 I 11 7 (I 11 8)) L (F_X5_byteAt (u2 I 11 7 (I 11 8)) ((u2 I 11 7 (I 11 8)) 11 7)) ) mo_X6_isLetter (tat ok_X6_step_1 (i := 16) (q := 121) rfl rfl) ml_X6_167 ⟨(Nat.le_of_ble_eq_true rfl), (Nat.le_of_ble_eq_true rfl)⟩ ⟨(Nat.le_of_ble_eq_true rfl), (Nat.le_of_ble_eq_true rfl)⟩ (Nat.le_of_ble_eq_true rfl) <|
    V_if_eq (tat ok_X6_step_1 (i := 17) (q := 124) rfl rfl) rfl (fun c5 => V_aload_n (tat ok_X6_step_2 (i := 1) (q := 174) rfl rfl) 0 rfl rfl <|
    V_getR (tat ok_X6_step_2 (i := 2) (q := 177) rfl rfl) fk_X6_30 rfl rfl <|
    V_aload_n (tat ok_X6_step_2 (i := 3) (q := 178) rfl rfl) 0 rfl rfl <|
    V_getI (tat ok_X6_step_2 (i := 4) (q := 181) rfl rfl) fk_X6_59 rfl <|
    V_cv1 (ct_X5_byteAt (u2 I 11 7 (I 11 8)) L ((u2 I 11 7 (I 11 8)) 11 7) ) mo_X5_byteAt (tat ok_X6_step_2 (i := 5) (q := 184) rfl rfl) ml_X6_105 rfl ⟨by decide, _, rfl, rfl⟩ ⟨(Nat.le_of_ble_eq_true rfl), (Nat.le_of_ble_eq_true rfl)⟩ ⟨(Nat.le_of_ble_eq_true rfl), (Nat.le_of_ble_eq_true rfl)⟩ (Nat.le_of_ble_eq_true rfl) <|
    V_cs1 (ct_X6_isFigure (u2 I 11 7 (I 11 8)) L (F_X5_byteAt (u2 I 11 7 (I 11 8)) ((u2 I 11 7 (I 11 8)) 11 7)) ) mo_X6_isFigure (tat ok_X6_step_2 (i := 6) (q := 187) rfl rfl) ml_X6_170 ⟨(Nat.le_of_ble_eq_true rfl), (Nat.le_of_ble_eq_true rfl)⟩ ⟨(Nat.le_of_ble_eq_true rfl), (Nat.le_of_ble_eq_true rfl)⟩ (Nat.le_of_ble_eq_true rfl) <|
    V_if_eq (tat ok_X6_step_2 (i := 7) (q := 190) rfl rfl) rfl (fun c6 => V_aload_n (tat ok_X6_step_2 (i := 11) (q := 198) rfl rfl) 0 rfl rfl <|
    V_iconst (tat ok_X6_step_2 (i := 12) (q := 199) rfl rfl) ic_4 <|
    V_putI (tat ok_X6_step_2 (i := 13) (q := 202) rfl rfl) fk_X6_65 rfl rfl <|
    V_aload_n (tat ok_X6_step_2 (i := 14) (q := 203) rfl rfl) 0 rfl rfl <|
    V_iconst (tat ok_X6_step_2 (i := 15) (q := 204) rfl rfl) ic_1 <|
    V_cv1 (ct_X6_refuse (u2 (u2 I 11 7 (I 11 8)) 11 6 4) L 1 ) mo_X6_refuse (tat ok_X6_step_2 (i := 16) (q := 207) rfl rfl) ml_X6_85 rfl ⟨by decide, _, rfl, rfl⟩ ⟨(Nat.le_of_ble_eq_true rfl), (Nat.le_of_ble_eq_true rfl)⟩ ⟨(Nat.le_of_ble_eq_true rfl), (Nat.le_of_ble_eq_true rfl)⟩ (Nat.le_of_ble_eq_true rfl) <|
    V_pop (tat ok_X6_step_2 (i := 17) (q := 208) rfl rfl) rfl <|
    V_X6_step_208  hr (jq (P := oP P) kq (Eq.trans (if_pos c3) (Eq.trans (if_neg c4) (Eq.trans (if_pos c5) (if_pos c6)))))) (fun c6 => V_aload_n (tat ok_X6_step_2 (i := 8) (q := 191) rfl rfl) 0 rfl rfl <|
    oP_case (jq (P := oP P) kq (Eq.trans (if_pos c3) (Eq.trans (if_neg c4) (Eq.trans (if_pos c5) (if_neg c6))))) (fun v7 e7 _ => V_cv0v (ct_X6_stepNumber (u2 I 11 7 (I 11 8)) L   e7) mo_X6_stepNumber (tat ok_X6_step_2 (i := 9) (q := 194) rfl rfl) ml_X6_173 rfl ⟨by decide, _, rfl, rfl⟩ ⟨(Nat.le_of_ble_eq_true rfl), (Nat.le_of_ble_eq_true rfl)⟩ ⟨(Nat.le_of_ble_eq_true rfl), (Nat.le_of_ble_eq_true rfl)⟩ (Nat.le_of_ble_eq_true rfl) <|
    V_goto (tat ok_X6_step_2 (i := 10) (q := 197) rfl rfl) rfl <|
    V_X6_step_208  hr (jq (P := oP P) kq (Eq.trans (if_pos c3) (Eq.trans (if_neg c4) (Eq.trans (if_pos c5) (Eq.trans (if_neg c6) (ob e7))))))))) (fun c5 => V_aload_n (tat ok_X6_step_1 (i := 18) (q := 125) rfl rfl) 0 rfl rfl <|
    V_iconst (tat ok_X6_step_1 (i := 19) (q := 126) rfl rfl) ic_1 <|
    V_putI (tat ok_X6_step_1 (i := 20) (q := 129) rfl rfl) fk_X6_65 rfl rfl <|
    V_X6_step_129  hr (jq (P := oP P) kq (Eq.trans (if_pos c3) (Eq.trans (if_neg c4) (if_neg c5)))))) (fun c4 => V_aload_n (tat ok_X6_step_1 (i := 1) (q := 90) rfl rfl) 0 rfl rfl <|
    V_iconst (tat ok_X6_step_1 (i := 2) (q := 91) rfl rfl) ic_3 <|
    V_putI (tat ok_X6_step_1 (i := 3) (q := 94) rfl rfl) fk_X6_65 rfl rfl <|
    V_aload_n (tat ok_X6_step_1 (i := 4) (q := 95) rfl rfl) 0 rfl rfl <|
    V_dup (tat ok_X6_step_1 (i := 5) (q := 96) rfl rfl) rfl <|
    V_getI (tat ok_X6_step_1 (i := 6) (q := 99) rfl rfl) fk_X6_47 rfl <|
    V_iconst (tat ok_X6_step_1 (i := 7) (q := 100) rfl rfl) ic_1 <|
    V_iadd (tat ok_X6_step_1 (i := 8) (q := 101) rfl rfl) <|
    V_putI (tat ok_X6_step_1 (i := 9) (q := 104) rfl rfl) fk_X6_47 rfl rfl <|
    V_goto (tat ok_X6_step_1 (i := 10) (q := 107) rfl rfl) rfl <|
    V_X6_step_208  hr (jq (P := oP P) kq (Eq.trans (if_pos c3) (if_pos c4))))) (fun c3 => V_aload_n (tat ok_X6_step_0 (i := 30) (q := 66) rfl rfl) 0 rfl rfl <|
    V_iconst (tat ok_X6_step_0 (i := 31) (q := 67) rfl rfl) ic_0 <|
    V_putI (tat ok_X6_step_0 (i := 32) (q := 70) rfl rfl) fk_X6_65 rfl rfl <|
    V_goto (tat ok_X6_step_0 (i := 33) (q := 73) rfl rfl) rfl <|
    V_X6_step_208  hr (jq (P := oP P) kq (if_neg c3)))
def F_X6_step (I : WI) : Option WI :=
  (lpp (fun x => (F_X6_step_0_1 x)) 4294967296 I).bind (fun q => (F_X6_step_43 q))
theorem V_X6_step  {I : WI} {L : WL}   {P : WI → Prop} {t : Tg} (hr : ∀ v, P v → t = (none, ly0, v, L, R0)) (kk : oP P (F_X6_step I)) : V (zM x_X6_step 3 0 0 t) 0 [(0, .ref 11)] [] ly0 I L R0 0 0 :=
  V_lpp (fun x => (F_X6_step_0_1 x)) (fun x => V (zM x_X6_step 3 0 0 t) 0 [(0, .ref 11)] [] ly0 x L R0 0 0) (fun x => oP P ((F_X6_step_43 x))) (s := I) (fun x e0 => V_X6_step_0_1 (P := Sum.elim (fun x => oP P ((F_X6_step_43 x))) (fun x => V (zM x_X6_step 3 0 0 t) 0 [(0, .ref 11)] [] ly0 x L R0 0 0))  (fun x e => V_X6_step_43  hr e) (fun _ e => e) e0) (oP_bind (f := fun q => _) kk)
theorem ct_X6_step  (I : WI) (L : WL)  {v : WI} (h : (F_X6_step I) = some v) : Ct x_X6_step 3 [.ref 11] ly0 I L R0 0 0 (none, ly0, v, L, R0) :=
  Ct_of_V mo_X6_step.1 (Nat.le_of_ble_eq_true rfl) (V_X6_step (P := fun x => x = v)  (fun _ e => by rw [e]) (by rw [h]; exact rfl))
def F_X6_isNamed_36_1 (I : WI) (t1 : Nat) (a2 : Int32) : Option (Int32 ⊕ Unit) :=
  (if a2 < 0 ∨ (s_len.getD t1 0) ≤ Int32.toNatClampNeg a2 then none else (if (F_X5_byteAt I ((I 11 7) + a2)) = (chr t1 a2) then some (.inr ()) else some (.inl 0)))
theorem V_X6_isNamed_36_1  {I : WI} {L : WL} {t1 : Nat} {a2 : Int32}  {P : (Int32 ⊕ Unit) → Prop} {t : Tg} (ht1 : t1 < 6) (hr : ∀ v, P (.inl v) → t = (some (.int v), ly0, I, L, R0)) (hk : ∀ x : Unit, P (.inr x) → V (zM x_X6_isNamed 5 0 0 t) 28 [(0, .ref 11), (1, .ref (1000 + t1)), (2, .int (a2 + 1))] [] ly0 I L R0 0 0) : oP P (F_X6_isNamed_36_1 I t1 a2) → V (zM x_X6_isNamed 5 0 0 t) 36 [(0, .ref 11), (1, .ref (1000 + t1)), (2, .int a2)] [] ly0 I L R0 0 0 :=
  fun _ =>
  have kq : (oP P (F_X6_isNamed_36_1 I t1 a2)) ∧ True := ⟨by assumption, trivial⟩
  V_aload_n (tat ok_X6_isNamed_0 (i := 20) (q := 37) rfl rfl) 0 rfl rfl <|
    V_getR (tat ok_X6_isNamed_0 (i := 21) (q := 40) rfl rfl) fk_X6_30 rfl rfl <|
    V_aload_n (tat ok_X6_isNamed_0 (i := 22) (q := 41) rfl rfl) 0 rfl rfl <|
    V_getI (tat ok_X6_isNamed_0 (i := 23) (q := 44) rfl rfl) fk_X6_59 rfl <|
    V_iload_n (tat ok_X6_isNamed_0 (i := 24) (q := 45) rfl rfl) 2 rfl rfl <|
    V_iadd (tat ok_X6_isNamed_0 (i := 25) (q := 46) rfl rfl) <|
    V_cv1 (ct_X5_byteAt I L ((I 11 7) + a2) ) mo_X5_byteAt (tat ok_X6_isNamed_0 (i := 26) (q := 49) rfl rfl) ml_X6_105 rfl ⟨by decide, _, rfl, rfl⟩ ⟨(Nat.le_of_ble_eq_true rfl), (Nat.le_of_ble_eq_true rfl)⟩ ⟨(Nat.le_of_ble_eq_true rfl), (Nat.le_of_ble_eq_true rfl)⟩ (Nat.le_of_ble_eq_true rfl) <|
    V_aload_n (tat ok_X6_isNamed_0 (i := 27) (q := 50) rfl rfl) 1 rfl rfl <|
    V_iload_n (tat ok_X6_isNamed_0 (i := 28) (q := 51) rfl rfl) 2 rfl rfl <|
    (if c3 : a2 < 0 ∨ (s_len.getD t1 0) ≤ Int32.toNatClampNeg a2 then ((jq (P := oP P) kq (if_pos c3))).elim else V_callT (As := [.int a2]) (ct_chr I L t1 a2 ht1 c3) mo_J0_charAt_5068e (tat ok_X6_isNamed_0 (i := 29) (q := 54) rfl rfl) ml_X6_161 rfl ht1 rfl ⟨(Nat.le_of_ble_eq_true rfl), (Nat.le_of_ble_eq_true rfl)⟩ ⟨(Nat.le_of_ble_eq_true rfl), (Nat.le_of_ble_eq_true rfl)⟩ (Nat.le_of_ble_eq_true rfl) rfl <|
    V_icmp_eq (tat ok_X6_isNamed_0 (i := 30) (q := 57) rfl rfl) rfl (fun c4 => V_iinc (v := (a2 + 1)) (lv' := [(2, .int (a2 + 1)), (0, .ref 11), (1, .ref (1000 + t1))]) (tat ok_X6_isNamed_0 (i := 33) (q := 62) rfl rfl) 2 rfl (ia ic_1) (Nat.le_of_ble_eq_true rfl) rfl <|
    V_goto (tat ok_X6_isNamed_0 (i := 34) (q := 65) rfl rfl) rfl <|
    V_pick [1, 2, 0] rfl (hk () (jq (P := oP P) kq (Eq.trans (if_neg c3) (if_pos c4))))) (fun c4 => V_iconst (tat ok_X6_isNamed_0 (i := 31) (q := 58) rfl rfl) ic_0 <|
    V_iret (tat ok_X6_isNamed_0 (i := 32) (q := 59) rfl rfl) _ rfl rfl (hr 0 (jq (P := oP P) kq (Eq.trans (if_neg c3) (if_neg c4)))) ⟨(Nat.le_of_ble_eq_true rfl), (Nat.le_of_ble_eq_true rfl)⟩))
def F_X6_isNamed_65 (I : WI) (t1 : Nat) : Option Int32 :=
  some 1
theorem V_X6_isNamed_65  {I : WI} {L : WL} {t1 : Nat}  {P : Int32 → Prop} {t : Tg} (ht1 : t1 < 6) (hr : ∀ v, P v → t = (some (.int v), ly0, I, L, R0)) : oP P (F_X6_isNamed_65 I t1) → V (zM x_X6_isNamed 5 0 0 t) 65 [(0, .ref 11), (1, .ref (1000 + t1))] [] ly0 I L R0 0 0 :=
  fun _ =>
  have kq : (oP P (F_X6_isNamed_65 I t1)) ∧ True := ⟨by assumption, trivial⟩
  V_iconst (tat ok_X6_isNamed_0 (i := 35) (q := 66) rfl rfl) ic_1 <|
    V_iret (tat ok_X6_isNamed_0 (i := 36) (q := 67) rfl rfl) _ rfl rfl (hr 1 (jq (P := oP P) kq rfl)) ⟨(Nat.le_of_ble_eq_true rfl), (Nat.le_of_ble_eq_true rfl)⟩
def F_X6_isNamed_28 (I : WI) (t1 : Nat) (a2 : Int32) : Option Int32 :=
  (frp1 (fun i x => (F_X6_isNamed_36_1 I t1 i)) (slen t1) (fu a2 (slen t1)) a2 ()).bind (Sum.elim (fun r => some (r)) (fun q => (F_X6_isNamed_65 I t1)))
theorem V_X6_isNamed_28  {I : WI} {L : WL} {t1 : Nat} {a2 : Int32} {P : Int32 → Prop} {t : Tg} (ht1 : t1 < 6) (hb2 : bz a2 = a2) (hr : ∀ v, P v → t = (some (.int v), ly0, I, L, R0)) (kk : oP P (F_X6_isNamed_28 I t1 a2)) : V (zM x_X6_isNamed 5 0 0 t) 28 [(0, .ref 11), (1, .ref (1000 + t1)), (2, .int a2)] [] ly0 I L R0 0 0 :=
  V_frp1 (fun i x => (F_X6_isNamed_36_1 I t1 i)) (slen t1) (fun i x => V (zM x_X6_isNamed 5 0 0 t) 28 [(0, .ref 11), (1, .ref (1000 + t1)), (2, .int i)] [] ly0 I L R0 0 0) (fun i x => oP P ((F_X6_isNamed_65 I t1))) (fun r => P (r)) (c := a2) (s := ()) (fun i x kx kb => V_iload_n (tat ok_X6_isNamed_0 (i := 16) (q := 29) rfl rfl) 2 rfl rfl <|
    V_aload_n (tat ok_X6_isNamed_0 (i := 17) (q := 30) rfl rfl) 1 rfl rfl <|
    V_callT (As := []) (ct_slen I L t1 ht1) mo_J0_length_8abf5 (tat ok_X6_isNamed_0 (i := 18) (q := 33) rfl rfl) ml_X6_156 rfl ht1 rfl ⟨(Nat.le_of_ble_eq_true rfl), (Nat.le_of_ble_eq_true rfl)⟩ ⟨(Nat.le_of_ble_eq_true rfl), (Nat.le_of_ble_eq_true rfl)⟩ (Nat.le_of_ble_eq_true rfl) rfl <|
    V_icmp_ge (tat ok_X6_isNamed_0 (i := 19) (q := 36) rfl rfl) rfl (fun c0 => V_pick [0, 1] rfl (V_X6_isNamed_65 ht1 hr (kx c0))) (fun c0 => V_X6_isNamed_36_1 (P := (Sum.elim (fun r => P (r)) (fun x => (fun i x => V (zM x_X6_isNamed 5 0 0 t) 28 [(0, .ref 11), (1, .ref (1000 + t1)), (2, .int i)] [] ly0 I L R0 0 0) (i + 1) x))) ht1 (fun v e => hr v e) (fun _ e => e) (kb c0))) (oP_sum kk)
def F_X6_isNamed_24 (I : WI) (t1 : Nat) : Option Int32 :=
  some 0
theorem V_X6_isNamed_24  {I : WI} {L : WL} {t1 : Nat}  {P : Int32 → Prop} {t : Tg} (ht1 : t1 < 6) (hr : ∀ v, P v → t = (some (.int v), ly0, I, L, R0)) : oP P (F_X6_isNamed_24 I t1) → V (zM x_X6_isNamed 5 0 0 t) 24 [(0, .ref 11), (1, .ref (1000 + t1))] [] ly0 I L R0 0 0 :=
  fun _ =>
  have kq : (oP P (F_X6_isNamed_24 I t1)) ∧ True := ⟨by assumption, trivial⟩
  V_iconst (tat ok_X6_isNamed_0 (i := 12) (q := 25) rfl rfl) ic_0 <|
    V_iret (tat ok_X6_isNamed_0 (i := 13) (q := 26) rfl rfl) _ rfl rfl (hr 0 (jq (P := oP P) kq rfl)) ⟨(Nat.le_of_ble_eq_true rfl), (Nat.le_of_ble_eq_true rfl)⟩
def F_X6_isNamed (I : WI) (t1 : Nat) : Option Int32 :=
  (if (I 11 6) = 1 then (if ((I 11 8) - (I 11 7)) = (slen t1) then (F_X6_isNamed_28 I t1 0) else (F_X6_isNamed_24 I t1)) else (F_X6_isNamed_24 I t1))
theorem V_X6_isNamed  {I : WI} {L : WL} {t1 : Nat}  {P : Int32 → Prop} {t : Tg} (ht1 : t1 < 6) (hr : ∀ v, P v → t = (some (.int v), ly0, I, L, R0)) : oP P (F_X6_isNamed I t1) → V (zM x_X6_isNamed 5 0 0 t) 0 [(0, .ref 11), (1, .ref (1000 + t1))] [] ly0 I L R0 0 0 :=
  fun _ =>
  have kq : (oP P (F_X6_isNamed I t1)) ∧ True := ⟨by assumption, trivial⟩
  V_aload_n (tat ok_X6_isNamed_0 (i := 0) (q := 1) rfl rfl) 0 rfl rfl <|
    V_getI (tat ok_X6_isNamed_0 (i := 1) (q := 4) rfl rfl) fk_X6_65 rfl <|
    V_iconst (tat ok_X6_isNamed_0 (i := 2) (q := 5) rfl rfl) ic_1 <|
    V_icmp_ne (tat ok_X6_isNamed_0 (i := 3) (q := 8) rfl rfl) rfl (fun c1 => V_X6_isNamed_24 ht1 hr (jq (P := oP P) kq (if_neg c1))) (fun c1 => V_aload_n (tat ok_X6_isNamed_0 (i := 4) (q := 9) rfl rfl) 0 rfl rfl <|
    V_getI (tat ok_X6_isNamed_0 (i := 5) (q := 12) rfl rfl) fk_X6_47 rfl <|
    V_aload_n (tat ok_X6_isNamed_0 (i := 6) (q := 13) rfl rfl) 0 rfl rfl <|
    V_getI (tat ok_X6_isNamed_0 (i := 7) (q := 16) rfl rfl) fk_X6_59 rfl <|
    V_isub (tat ok_X6_isNamed_0 (i := 8) (q := 17) rfl rfl) <|
    V_aload_n (tat ok_X6_isNamed_0 (i := 9) (q := 18) rfl rfl) 1 rfl rfl <|
    V_callT (As := []) (ct_slen I L t1 ht1) mo_J0_length_8abf5 (tat ok_X6_isNamed_0 (i := 10) (q := 21) rfl rfl) ml_X6_156 rfl ht1 rfl ⟨(Nat.le_of_ble_eq_true rfl), (Nat.le_of_ble_eq_true rfl)⟩ ⟨(Nat.le_of_ble_eq_true rfl), (Nat.le_of_ble_eq_true rfl)⟩ (Nat.le_of_ble_eq_true rfl) rfl <|
    V_icmp_eq (tat ok_X6_isNamed_0 (i := 11) (q := 24) rfl rfl) rfl (fun c2 => V_iconst (tat ok_X6_isNamed_0 (i := 14) (q := 27) rfl rfl) ic_0 <|
    V_istore_n (lv' := [(2, .int 0), (0, .ref 11), (1, .ref (1000 + t1))]) (tat ok_X6_isNamed_0 (i := 15) (q := 28) rfl rfl) rfl (Nat.le_of_ble_eq_true rfl) rfl <|
    V_pick [1, 2, 0] rfl (V_X6_isNamed_28 ht1 rfl hr (jq (P := oP P) kq (Eq.trans (if_pos c1) (if_pos c2))))) (fun c2 => V_X6_isNamed_24 ht1 hr (jq (P := oP P) kq (Eq.trans (if_pos c1) (if_neg c2)))))
theorem ct_X6_isNamed  (I : WI) (L : WL) (t1 : Nat) (ht1 : t1 < 6) {v : Int32} (h : (F_X6_isNamed I t1) = some v) : Ct x_X6_isNamed 5 [.ref 11, .ref (1000 + t1)] ly0 I L R0 0 0 (some (.int v), ly0, I, L, R0) :=
  Ct_of_V mo_X6_isNamed.1 (Nat.le_of_ble_eq_true rfl) (V_X6_isNamed (P := fun x => x = v) ht1 (fun _ e => by rw [e]) (by rw [h]; exact rfl))
def F_X6_isRow_46_1 (I : WI) (a1 : Int32) : (Int32 ⊕ Unit) :=
  .inr ()
theorem V_X6_isRow_46_1  {I : WI} {L : WL} {a1 : Int32}  {P : (Int32 ⊕ Unit) → Prop} {t : Tg} (hr : ∀ v, P (.inl v) → t = (some (.int v), ly0, I, L, R0)) (hk : ∀ x : Unit, P (.inr x) → V (zM x_X6_isRow 2 0 0 t) 15 [(0, .ref 11), (1, .int (a1 + 1))] [] ly0 I L R0 0 0) (kk : P (F_X6_isRow_46_1 I a1)) : V (zM x_X6_isRow 2 0 0 t) 46 [(0, .ref 11), (1, .int a1)] [] ly0 I L R0 0 0 :=
  V_iinc (v := (a1 + 1)) (lv' := [(1, .int (a1 + 1)), (0, .ref 11)]) (tat ok_X6_isRow_0 (i := 26) (q := 49) rfl rfl) 1 rfl (ia ic_1) (Nat.le_of_ble_eq_true rfl) rfl <|
    V_goto (tat ok_X6_isRow_0 (i := 27) (q := 52) rfl rfl) rfl <|
    V_pick [1, 0] rfl (hk () (jx (P := P) kk rfl))
def F_X6_isRow_23_1 (I : WI) (a1 : Int32) : (Int32 ⊕ Unit) :=
  (if (F_X5_byteAt I a1) = 100 then (F_X6_isRow_46_1 I a1) else (if (F_X5_byteAt I a1) = 108 then (F_X6_isRow_46_1 I a1) else .inl 0))
theorem V_X6_isRow_23_1  {I : WI} {L : WL} {a1 : Int32}  {P : (Int32 ⊕ Unit) → Prop} {t : Tg} (hr : ∀ v, P (.inl v) → t = (some (.int v), ly0, I, L, R0)) (hk : ∀ x : Unit, P (.inr x) → V (zM x_X6_isRow 2 0 0 t) 15 [(0, .ref 11), (1, .int (a1 + 1))] [] ly0 I L R0 0 0) (kk : P (F_X6_isRow_23_1 I a1)) : V (zM x_X6_isRow 2 0 0 t) 23 [(0, .ref 11), (1, .int a1)] [] ly0 I L R0 0 0 :=
  V_aload_n (tat ok_X6_isRow_0 (i := 13) (q := 24) rfl rfl) 0 rfl rfl <|
    V_getR (tat ok_X6_isRow_0 (i := 14) (q := 27) rfl rfl) fk_X6_30 rfl rfl <|
    V_iload_n (tat ok_X6_isRow_0 (i := 15) (q := 28) rfl rfl) 1 rfl rfl <|
    V_cv1 (ct_X5_byteAt I L a1 ) mo_X5_byteAt (tat ok_X6_isRow_0 (i := 16) (q := 31) rfl rfl) ml_X6_105 rfl ⟨by decide, _, rfl, rfl⟩ ⟨(Nat.le_of_ble_eq_true rfl), (Nat.le_of_ble_eq_true rfl)⟩ ⟨(Nat.le_of_ble_eq_true rfl), (Nat.le_of_ble_eq_true rfl)⟩ (Nat.le_of_ble_eq_true rfl) <|
    V_istore_n (lv' := [(2, .int (F_X5_byteAt I a1)), (0, .ref 11), (1, .int a1)]) (tat ok_X6_isRow_0 (i := 17) (q := 32) rfl rfl) rfl (Nat.le_of_ble_eq_true rfl) rfl <|
    V_iload_n (tat ok_X6_isRow_0 (i := 18) (q := 33) rfl rfl) 0 rfl rfl <|
    V_bipush (tat ok_X6_isRow_0 (i := 19) (q := 35) rfl rfl) bp_100 <|
    V_icmp_eq (tat ok_X6_isRow_0 (i := 20) (q := 38) rfl rfl) rfl (fun c2 => V_pick [1, 2] rfl (V_X6_isRow_46_1  hr hk (jx (P := P) kk (if_pos c2)))) (fun c2 => V_iload_n (tat ok_X6_isRow_0 (i := 21) (q := 39) rfl rfl) 0 rfl rfl <|
    V_bipush (tat ok_X6_isRow_0 (i := 22) (q := 41) rfl rfl) bp_108 <|
    V_icmp_eq (tat ok_X6_isRow_0 (i := 23) (q := 44) rfl rfl) rfl (fun c3 => V_pick [1, 2] rfl (V_X6_isRow_46_1  hr hk (jx (P := P) kk (Eq.trans (if_neg c2) (if_pos c3))))) (fun c3 => V_iconst (tat ok_X6_isRow_0 (i := 24) (q := 45) rfl rfl) ic_0 <|
    V_iret (tat ok_X6_isRow_0 (i := 25) (q := 46) rfl rfl) _ rfl rfl (hr 0 (jx (P := P) kk (Eq.trans (if_neg c2) (if_neg c3)))) ⟨(Nat.le_of_ble_eq_true rfl), (Nat.le_of_ble_eq_true rfl)⟩))
def F_X6_isRow_52 (I : WI) : Int32 :=
  1
theorem V_X6_isRow_52  {I : WI} {L : WL}   {P : Int32 → Prop} {t : Tg} (hr : ∀ v, P v → t = (some (.int v), ly0, I, L, R0)) (kk : P (F_X6_isRow_52 I)) : V (zM x_X6_isRow 2 0 0 t) 52 [(0, .ref 11)] [] ly0 I L R0 0 0 :=
  V_iconst (tat ok_X6_isRow_0 (i := 28) (q := 53) rfl rfl) ic_1 <|
    V_iret (tat ok_X6_isRow_0 (i := 29) (q := 54) rfl rfl) _ rfl rfl (hr 1 (jx (P := P) kk rfl)) ⟨(Nat.le_of_ble_eq_true rfl), (Nat.le_of_ble_eq_true rfl)⟩
def F_X6_isRow_15 (I : WI)  (a1 : Int32) : Int32 :=
  Sum.elim (fun r => r) (fun q => (F_X6_isRow_52 I)) (fr1 (fun i x => (F_X6_isRow_23_1 I i)) (I 11 8) (fu a1 (I 11 8)) a1 ())
theorem V_X6_isRow_15  {I : WI} {L : WL}  {a1 : Int32} {P : Int32 → Prop} {t : Tg} (hr : ∀ v, P v → t = (some (.int v), ly0, I, L, R0)) (kk : P (F_X6_isRow_15 I a1)) : V (zM x_X6_isRow 2 0 0 t) 15 [(0, .ref 11), (1, .int a1)] [] ly0 I L R0 0 0 :=
  V_fr1 (fun i x => (F_X6_isRow_23_1 I i)) (I 11 8) (fun i x => V (zM x_X6_isRow 2 0 0 t) 15 [(0, .ref 11), (1, .int i)] [] ly0 I L R0 0 0) (fun i x => P ((F_X6_isRow_52 I))) (fun r => P (r)) (c := a1) (s := ()) (fun i x kx kb => V_iload_n (tat ok_X6_isRow_0 (i := 9) (q := 16) rfl rfl) 1 rfl rfl <|
    V_aload_n (tat ok_X6_isRow_0 (i := 10) (q := 17) rfl rfl) 0 rfl rfl <|
    V_getI (tat ok_X6_isRow_0 (i := 11) (q := 20) rfl rfl) fk_X6_47 rfl <|
    V_icmp_ge (tat ok_X6_isRow_0 (i := 12) (q := 23) rfl rfl) rfl (fun c0 => V_pick [0] rfl (V_X6_isRow_52  hr (kx c0))) (fun c0 => V_X6_isRow_23_1 (P := (Sum.elim (fun r => P (r)) (fun x => (fun i x => V (zM x_X6_isRow 2 0 0 t) 15 [(0, .ref 11), (1, .int i)] [] ly0 I L R0 0 0) (i + 1) x)))  (fun v e => hr v e) (fun _ e => e) (kb c0))) (sE kk)
def F_X6_isRow (I : WI) : Int32 :=
  (if (I 11 6) = 1 then (F_X6_isRow_15 I (I 11 7)) else 0)
theorem V_X6_isRow  {I : WI} {L : WL}   {P : Int32 → Prop} {t : Tg} (hr : ∀ v, P v → t = (some (.int v), ly0, I, L, R0)) (kk : P (F_X6_isRow I)) : V (zM x_X6_isRow 2 0 0 t) 0 [(0, .ref 11)] [] ly0 I L R0 0 0 :=
  V_aload_n (tat ok_X6_isRow_0 (i := 0) (q := 1) rfl rfl) 0 rfl rfl <|
    V_getI (tat ok_X6_isRow_0 (i := 1) (q := 4) rfl rfl) fk_X6_65 rfl <|
    V_iconst (tat ok_X6_isRow_0 (i := 2) (q := 5) rfl rfl) ic_1 <|
    V_icmp_eq (tat ok_X6_isRow_0 (i := 3) (q := 8) rfl rfl) rfl (fun c1 => V_aload_n (tat ok_X6_isRow_0 (i := 6) (q := 11) rfl rfl) 0 rfl rfl <|
    V_getI (tat ok_X6_isRow_0 (i := 7) (q := 14) rfl rfl) fk_X6_59 rfl <|
    V_istore_n (lv' := [(1, .int (I 11 7)), (0, .ref 11)]) (tat ok_X6_isRow_0 (i := 8) (q := 15) rfl rfl) rfl (Nat.le_of_ble_eq_true rfl) rfl <|
    V_pick [1, 0] rfl (V_X6_isRow_15  hr (jx (P := P) kk (if_pos c1)))) (fun c1 => V_iconst (tat ok_X6_isRow_0 (i := 4) (q := 9) rfl rfl) ic_0 <|
    V_iret (tat ok_X6_isRow_0 (i := 5) (q := 10) rfl rfl) _ rfl rfl (hr 0 (jx (P := P) kk (if_neg c1))) ⟨(Nat.le_of_ble_eq_true rfl), (Nat.le_of_ble_eq_true rfl)⟩)
theorem ct_X6_isRow  (I : WI) (L : WL)  : Ct x_X6_isRow 2 [.ref 11] ly0 I L R0 0 0 (some (.int (F_X6_isRow I)), ly0, I, L, R0) :=
  Ct_of_V mo_X6_isRow.1 (Nat.le_of_ble_eq_true rfl) (V_X6_isRow (P := fun x => x = (F_X6_isRow I))  (fun _ e => by rw [e]) rfl)
def F_X6_takeRow_44 (I : WI) (L : WL) (r1 : Nat) : Option (Int32 × WI × WL) :=
  (if bz (p1 (F_X6_refuse I 3)) = (p1 (F_X6_refuse I 3)) then some ((p1 (F_X6_refuse I 3)), (p2 (F_X6_refuse I 3)), L) else none)
theorem V_X6_takeRow_44  {I : WI} {L : WL} {r1 : Nat}  {P : (Int32 × WI × WL) → Prop} {t : Tg} (hr1 : isX0 r1) (hr : ∀ v, P v → t = (some (.int (p1 v)), ly0, (p1 (p2 v)), (p2 (p2 v)), R0)) : oP P (F_X6_takeRow_44 I L r1) → V (zM x_X6_takeRow 3 0 0 t) 44 [(0, .ref 11), (1, .ref r1)] [] ly0 I L R0 0 0 :=
  fun _ =>
  have kq : (oP P (F_X6_takeRow_44 I L r1)) ∧ True := ⟨by assumption, trivial⟩
  V_aload_n (tat ok_X6_takeRow_0 (i := 23) (q := 45) rfl rfl) 0 rfl rfl <|
    V_iconst (tat ok_X6_takeRow_0 (i := 24) (q := 46) rfl rfl) ic_3 <|
    V_cv1 (ct_X6_refuse I L 3 ) mo_X6_refuse (tat ok_X6_takeRow_0 (i := 25) (q := 49) rfl rfl) ml_X6_85 rfl ⟨by decide, _, rfl, rfl⟩ ⟨(Nat.le_of_ble_eq_true rfl), (Nat.le_of_ble_eq_true rfl)⟩ ⟨(Nat.le_of_ble_eq_true rfl), (Nat.le_of_ble_eq_true rfl)⟩ (Nat.le_of_ble_eq_true rfl) <|
    (if c4 : bz (p1 (F_X6_refuse I 3)) = (p1 (F_X6_refuse I 3)) then V_iret (tat ok_X6_takeRow_0 (i := 26) (q := 50) rfl rfl) _ rfl (bz_nf c4).1 (hr ((p1 (F_X6_refuse I 3)), (p2 (F_X6_refuse I 3)), L) (jq (P := oP P) kq (if_pos c4))) ⟨(Nat.le_of_ble_eq_true rfl), (Nat.le_of_ble_eq_true rfl)⟩ else ((jq (P := oP P) kq (if_neg c4))).elim)
def F_X6_takeRow_115_1 (I : WI) (L : WL) (r1 : Nat) (a2 : Int32) (a3 : Int32) : Option WL :=
  some L
theorem V_X6_takeRow_115_1  {I : WI} {L : WL} {r1 : Nat} {a2 : Int32} {a3 : Int32}  {P : WL → Prop} {t : Tg} (hr1 : isX0 r1) (hk : ∀ x : WL, P x → V (zM x_X6_takeRow 3 0 0 t) 72 [(0, .ref 11), (1, .ref r1), (2, .int a2), (3, .int (a3 + 1))] [] ly0 I x R0 0 0) : oP P (F_X6_takeRow_115_1 I L r1 a2 a3) → V (zM x_X6_takeRow 3 0 0 t) 115 [(0, .ref 11), (1, .ref r1), (2, .int a2), (3, .int a3)] [] ly0 I L R0 0 0 :=
  fun _ =>
  have kq : (oP P (F_X6_takeRow_115_1 I L r1 a2 a3)) ∧ True := ⟨by assumption, trivial⟩
  V_iinc (v := (a3 + 1)) (lv' := [(3, .int (a3 + 1)), (0, .ref 11), (1, .ref r1), (2, .int a2)]) (tat ok_X6_takeRow_1 (i := 25) (q := 118) rfl rfl) 3 rfl (ia ic_1) (Nat.le_of_ble_eq_true rfl) rfl <|
    V_goto (tat ok_X6_takeRow_1 (i := 26) (q := 121) rfl rfl) rfl <|
    V_pick [1, 2, 3, 0] rfl (hk L (jq (P := oP P) kq rfl))
def F_X6_takeRow_77_1 (I : WI) (L : WL) (r1 : Nat) (a2 : Int32) (a3 : Int32) : Option WL :=
  (if (F_X5_byteAt I ((I 11 7) + a3)) = 100 then (F_X6_takeRow_115_1 I (u2 L r1 3 ((L r1 3) ||| (lsh 1 ((8 * (I r1 1)) + a3)))) r1 a2 a3) else (F_X6_takeRow_115_1 I L r1 a2 a3))
theorem V_X6_takeRow_77_1  {I : WI} {L : WL} {r1 : Nat} {a2 : Int32} {a3 : Int32}  {P : WL → Prop} {t : Tg} (hr1 : isX0 r1) (hk : ∀ x : WL, P x → V (zM x_X6_takeRow 3 0 0 t) 72 [(0, .ref 11), (1, .ref r1), (2, .int a2), (3, .int (a3 + 1))] [] ly0 I x R0 0 0) : oP P (F_X6_takeRow_77_1 I L r1 a2 a3) → V (zM x_X6_takeRow 3 0 0 t) 77 [(0, .ref 11), (1, .ref r1), (2, .int a2), (3, .int a3)] [] ly0 I L R0 0 0 :=
  fun _ =>
  have kq : (oP P (F_X6_takeRow_77_1 I L r1 a2 a3)) ∧ True := ⟨by assumption, trivial⟩
  V_aload_n (tat ok_X6_takeRow_1 (i := 3) (q := 78) rfl rfl) 0 rfl rfl <|
    V_getR (tat ok_X6_takeRow_1 (i := 4) (q := 81) rfl rfl) fk_X6_30 rfl rfl <|
    V_aload_n (tat ok_X6_takeRow_1 (i := 5) (q := 82) rfl rfl) 0 rfl rfl <|
    V_getI (tat ok_X6_takeRow_1 (i := 6) (q := 85) rfl rfl) fk_X6_59 rfl <|
    V_iload_n (tat ok_X6_takeRow_1 (i := 7) (q := 86) rfl rfl) 3 rfl rfl <|
    V_iadd (tat ok_X6_takeRow_1 (i := 8) (q := 87) rfl rfl) <|
    V_cv1 (ct_X5_byteAt I L ((I 11 7) + a3) ) mo_X5_byteAt (tat ok_X6_takeRow_1 (i := 9) (q := 90) rfl rfl) ml_X6_105 rfl ⟨by decide, _, rfl, rfl⟩ ⟨(Nat.le_of_ble_eq_true rfl), (Nat.le_of_ble_eq_true rfl)⟩ ⟨(Nat.le_of_ble_eq_true rfl), (Nat.le_of_ble_eq_true rfl)⟩ (Nat.le_of_ble_eq_true rfl) <|
    V_bipush (tat ok_X6_takeRow_1 (i := 10) (q := 92) rfl rfl) bp_100 <|
    V_icmp_ne (tat ok_X6_takeRow_1 (i := 11) (q := 95) rfl rfl) rfl (fun c7 => V_X6_takeRow_115_1 hr1 hk (jq (P := oP P) kq (if_neg c7))) (fun c7 => V_aload_n (tat ok_X6_takeRow_1 (i := 12) (q := 96) rfl rfl) 1 rfl rfl <|
    V_dup (tat ok_X6_takeRow_1 (i := 13) (q := 97) rfl rfl) rfl <|
    V_getL (tat ok_X6_takeRow_1 (i := 14) (q := 100) rfl rfl) fk_X6_109 hr1 <|
    V_lconst (v := 1) (tat ok_X6_takeRow_1 (i := 15) (q := 101) rfl rfl) rfl <|
    V_bipush (tat ok_X6_takeRow_1 (i := 16) (q := 103) rfl rfl) bp_8 <|
    V_aload_n (tat ok_X6_takeRow_1 (i := 17) (q := 104) rfl rfl) 1 rfl rfl <|
    V_getI (tat ok_X6_takeRow_1 (i := 18) (q := 107) rfl rfl) fk_X6_93 hr1 <|
    V_imul (tat ok_X6_takeRow_1 (i := 19) (q := 108) rfl rfl) <|
    V_iload_n (tat ok_X6_takeRow_1 (i := 20) (q := 109) rfl rfl) 3 rfl rfl <|
    V_iadd (tat ok_X6_takeRow_1 (i := 21) (q := 110) rfl rfl) <|
    V_lshl (tat ok_X6_takeRow_1 (i := 22) (q := 111) rfl rfl) <|
    V_lor (tat ok_X6_takeRow_1 (i := 23) (q := 112) rfl rfl) <|
    V_putL (tat ok_X6_takeRow_1 (i := 24) (q := 115) rfl rfl) fk_X6_109 hr1 rfl <|
    V_X6_takeRow_115_1 hr1 hk (jq (P := oP P) kq (if_pos c7)))
def F_X6_takeRow_121 (I : WI) (L : WL) (r1 : Nat) : Option (Int32 × WI × WL) :=
  some (1, (u2 I r1 1 ((I r1 1) + 1)), L)
theorem V_X6_takeRow_121  {I : WI} {L : WL} {r1 : Nat}  {P : (Int32 × WI × WL) → Prop} {t : Tg} (hr1 : isX0 r1) (hr : ∀ v, P v → t = (some (.int (p1 v)), ly0, (p1 (p2 v)), (p2 (p2 v)), R0)) : oP P (F_X6_takeRow_121 I L r1) → V (zM x_X6_takeRow 3 0 0 t) 121 [(0, .ref 11), (1, .ref r1)] [] ly0 I L R0 0 0 :=
  fun _ =>
  have kq : (oP P (F_X6_takeRow_121 I L r1)) ∧ True := ⟨by assumption, trivial⟩
  V_aload_n (tat ok_X6_takeRow_1 (i := 27) (q := 122) rfl rfl) 1 rfl rfl <|
    V_dup (tat ok_X6_takeRow_1 (i := 28) (q := 123) rfl rfl) rfl <|
    V_getI (tat ok_X6_takeRow_1 (i := 29) (q := 126) rfl rfl) fk_X6_93 hr1 <|
    V_iconst (tat ok_X6_takeRow_1 (i := 30) (q := 127) rfl rfl) ic_1 <|
    V_iadd (tat ok_X6_takeRow_1 (i := 31) (q := 128) rfl rfl) <|
    V_putI (tat ok_X6_takeRow_1 (i := 32) (q := 131) rfl rfl) fk_X6_93 hr1 rfl <|
    V_iconst (tat ok_X6_takeRow_1 (i := 33) (q := 132) rfl rfl) ic_1 <|
    V_iret (tat ok_X6_takeRow_1 (i := 34) (q := 133) rfl rfl) _ rfl rfl (hr (1, (u2 I r1 1 ((I r1 1) + 1)), L) (jq (P := oP P) kq rfl)) ⟨(Nat.le_of_ble_eq_true rfl), (Nat.le_of_ble_eq_true rfl)⟩
def F_X6_takeRow_72 (I : WI) (L : WL) (r1 : Nat) (a2 : Int32) (a3 : Int32) : Option (Int32 × WI × WL) :=
  (frp0 (fun i x => (F_X6_takeRow_77_1 I x r1 a2 i)) a2 (fu a3 a2) a3 L).bind (fun q => (F_X6_takeRow_121 I (p2 q) r1))
theorem V_X6_takeRow_72  {I : WI} {L : WL} {r1 : Nat} {a2 : Int32} {a3 : Int32} {P : (Int32 × WI × WL) → Prop} {t : Tg} (hr1 : isX0 r1) (hb3 : bz a3 = a3) (hr : ∀ v, P v → t = (some (.int (p1 v)), ly0, (p1 (p2 v)), (p2 (p2 v)), R0)) (kk : oP P (F_X6_takeRow_72 I L r1 a2 a3)) : V (zM x_X6_takeRow 3 0 0 t) 72 [(0, .ref 11), (1, .ref r1), (2, .int a2), (3, .int a3)] [] ly0 I L R0 0 0 :=
  V_frp0 (fun i x => (F_X6_takeRow_77_1 I x r1 a2 i)) a2 (fun i x => V (zM x_X6_takeRow 3 0 0 t) 72 [(0, .ref 11), (1, .ref r1), (2, .int a2), (3, .int i)] [] ly0 I x R0 0 0) (fun i x => oP P ((F_X6_takeRow_121 I x r1))) (c := a3) (s := L) (fun i x kx kb => V_iload_n (tat ok_X6_takeRow_1 (i := 0) (q := 73) rfl rfl) 3 rfl rfl <|
    V_iload_n (tat ok_X6_takeRow_1 (i := 1) (q := 74) rfl rfl) 2 rfl rfl <|
    V_icmp_ge (tat ok_X6_takeRow_1 (i := 2) (q := 77) rfl rfl) rfl (fun c0 => V_pick [0, 1] rfl (V_X6_takeRow_121 hr1 hr (kx c0))) (fun c0 => V_X6_takeRow_77_1 (P := (fun x => (fun i x => V (zM x_X6_takeRow 3 0 0 t) 72 [(0, .ref 11), (1, .ref r1), (2, .int a2), (3, .int i)] [] ly0 I x R0 0 0) (i + 1) x)) hr1 (fun _ e => e) (kb c0))) (oP_bind (f := fun q => _) kk)
def F_X6_takeRow_50 (I : WI) (L : WL) (r1 : Nat) (a2 : Int32) : Option (Int32 × WI × WL) :=
  (if (I r1 1) < 8 then (F_X6_takeRow_72 (u2 I r1 2 a2) L r1 a2 0) else (if bz (p1 (F_X6_refuse I 5)) = (p1 (F_X6_refuse I 5)) then some ((p1 (F_X6_refuse I 5)), (p2 (F_X6_refuse I 5)), L) else none))
theorem V_X6_takeRow_50  {I : WI} {L : WL} {r1 : Nat} {a2 : Int32} {P : (Int32 × WI × WL) → Prop} {t : Tg} (hr1 : isX0 r1) (hr : ∀ v, P v → t = (some (.int (p1 v)), ly0, (p1 (p2 v)), (p2 (p2 v)), R0)) : oP P (F_X6_takeRow_50 I L r1 a2) → V (zM x_X6_takeRow 3 0 0 t) 50 [(0, .ref 11), (1, .ref r1), (2, .int a2)] [] ly0 I L R0 0 0 :=
  fun _ =>
  have kq : (oP P (F_X6_takeRow_50 I L r1 a2)) ∧ True := ⟨by assumption, trivial⟩
  V_aload_n (tat ok_X6_takeRow_0 (i := 27) (q := 51) rfl rfl) 1 rfl rfl <|
    V_getI (tat ok_X6_takeRow_0 (i := 28) (q := 54) rfl rfl) fk_X6_93 hr1 <|
    V_bipush (tat ok_X6_takeRow_0 (i := 29) (q := 56) rfl rfl) bp_8 <|
    V_icmp_lt (tat ok_X6_takeRow_0 (i := 30) (q := 59) rfl rfl) rfl (fun c6 => V_aload_n (tat ok_X6_takeRow_0 (i := 35) (q := 66) rfl rfl) 1 rfl rfl <|
    V_iload_n (tat ok_X6_takeRow_0 (i := 36) (q := 67) rfl rfl) 2 rfl rfl <|
    V_putI (tat ok_X6_takeRow_0 (i := 37) (q := 70) rfl rfl) fk_X6_102 hr1 rfl <|
    V_iconst (tat ok_X6_takeRow_0 (i := 38) (q := 71) rfl rfl) ic_0 <|
    V_istore_n (lv' := [(3, .int 0), (0, .ref 11), (1, .ref r1), (2, .int a2)]) (tat ok_X6_takeRow_0 (i := 39) (q := 72) rfl rfl) rfl (Nat.le_of_ble_eq_true rfl) rfl <|
    V_pick [1, 2, 3, 0] rfl (V_X6_takeRow_72 hr1 rfl hr (jq (P := oP P) kq (if_pos c6)))) (fun c6 => V_aload_n (tat ok_X6_takeRow_0 (i := 31) (q := 60) rfl rfl) 0 rfl rfl <|
    V_iconst (tat ok_X6_takeRow_0 (i := 32) (q := 61) rfl rfl) ic_5 <|
    V_cv1 (ct_X6_refuse I L 5 ) mo_X6_refuse (tat ok_X6_takeRow_0 (i := 33) (q := 64) rfl rfl) ml_X6_85 rfl ⟨by decide, _, rfl, rfl⟩ ⟨(Nat.le_of_ble_eq_true rfl), (Nat.le_of_ble_eq_true rfl)⟩ ⟨(Nat.le_of_ble_eq_true rfl), (Nat.le_of_ble_eq_true rfl)⟩ (Nat.le_of_ble_eq_true rfl) <|
    (if c8 : bz (p1 (F_X6_refuse I 5)) = (p1 (F_X6_refuse I 5)) then V_iret (tat ok_X6_takeRow_0 (i := 34) (q := 65) rfl rfl) _ rfl (bz_nf c8).1 (hr ((p1 (F_X6_refuse I 5)), (p2 (F_X6_refuse I 5)), L) (jq (P := oP P) kq (Eq.trans (if_neg c6) (if_pos c8)))) ⟨(Nat.le_of_ble_eq_true rfl), (Nat.le_of_ble_eq_true rfl)⟩ else ((jq (P := oP P) kq (Eq.trans (if_neg c6) (if_neg c8)))).elim))
def F_X6_takeRow (I : WI) (L : WL) (r1 : Nat) : Option (Int32 × WI × WL) :=
  (if (F_X6_isRow I) = 0 then (if bz (p1 (F_X6_refuse I 2)) = (p1 (F_X6_refuse I 2)) then some ((p1 (F_X6_refuse I 2)), (p2 (F_X6_refuse I 2)), L) else none) else (if 8 < ((I 11 8) - (I 11 7)) then (F_X6_takeRow_44 I L r1) else (if (I r1 1) ≤ 0 then (F_X6_takeRow_50 I L r1 ((I 11 8) - (I 11 7))) else (if ((I 11 8) - (I 11 7)) = (I r1 2) then (F_X6_takeRow_50 I L r1 ((I 11 8) - (I 11 7))) else (F_X6_takeRow_44 I L r1)))))
theorem V_X6_takeRow  {I : WI} {L : WL} {r1 : Nat}  {P : (Int32 × WI × WL) → Prop} {t : Tg} (hr1 : isX0 r1) (hr : ∀ v, P v → t = (some (.int (p1 v)), ly0, (p1 (p2 v)), (p2 (p2 v)), R0)) : oP P (F_X6_takeRow I L r1) → V (zM x_X6_takeRow 3 0 0 t) 0 [(0, .ref 11), (1, .ref r1)] [] ly0 I L R0 0 0 :=
  fun _ =>
  have kq : (oP P (F_X6_takeRow I L r1)) ∧ True := ⟨by assumption, trivial⟩
  V_aload_n (tat ok_X6_takeRow_0 (i := 0) (q := 1) rfl rfl) 0 rfl rfl <|
    V_cv0 (ct_X6_isRow I L  ) mo_X6_isRow (tat ok_X6_takeRow_0 (i := 1) (q := 4) rfl rfl) ml_X6_99 rfl ⟨by decide, _, rfl, rfl⟩ ⟨(Nat.le_of_ble_eq_true rfl), (Nat.le_of_ble_eq_true rfl)⟩ ⟨(Nat.le_of_ble_eq_true rfl), (Nat.le_of_ble_eq_true rfl)⟩ (Nat.le_of_ble_eq_true rfl) <|
    V_if_ne (tat ok_X6_takeRow_0 (i := 2) (q := 7) rfl rfl) rfl (fun c1 => V_aload_n (tat ok_X6_takeRow_0 (i := 7) (q := 14) rfl rfl) 0 rfl rfl <|
    V_getI (tat ok_X6_takeRow_0 (i := 8) (q := 17) rfl rfl) fk_X6_47 rfl <|
    V_aload_n (tat ok_X6_takeRow_0 (i := 9) (q := 18) rfl rfl) 0 rfl rfl <|
    V_getI (tat ok_X6_takeRow_0 (i := 10) (q := 21) rfl rfl) fk_X6_59 rfl <|
    V_isub (tat ok_X6_takeRow_0 (i := 11) (q := 22) rfl rfl) <|
    V_istore_n (lv' := [(2, .int ((I 11 8) - (I 11 7))), (0, .ref 11), (1, .ref r1)]) (tat ok_X6_takeRow_0 (i := 12) (q := 23) rfl rfl) rfl (Nat.le_of_ble_eq_true rfl) rfl <|
    V_iload_n (tat ok_X6_takeRow_0 (i := 13) (q := 24) rfl rfl) 0 rfl rfl <|
    V_bipush (tat ok_X6_takeRow_0 (i := 14) (q := 26) rfl rfl) bp_8 <|
    V_icmp_gt (tat ok_X6_takeRow_0 (i := 15) (q := 29) rfl rfl) rfl (fun c3 => V_pick [1, 2] rfl (V_X6_takeRow_44 hr1 hr (jq (P := oP P) kq (Eq.trans (if_neg c1) (if_pos c3))))) (fun c3 => V_aload_n (tat ok_X6_takeRow_0 (i := 16) (q := 30) rfl rfl) 2 rfl rfl <|
    V_getI (tat ok_X6_takeRow_0 (i := 17) (q := 33) rfl rfl) fk_X6_93 hr1 <|
    V_if_le (tat ok_X6_takeRow_0 (i := 18) (q := 36) rfl rfl) rfl (fun c5 => V_pick [1, 2, 0] rfl (V_X6_takeRow_50 hr1 hr (jq (P := oP P) kq (Eq.trans (if_neg c1) (Eq.trans (if_neg c3) (if_pos c5)))))) (fun c5 => V_iload_n (tat ok_X6_takeRow_0 (i := 19) (q := 37) rfl rfl) 0 rfl rfl <|
    V_aload_n (tat ok_X6_takeRow_0 (i := 20) (q := 38) rfl rfl) 2 rfl rfl <|
    V_getI (tat ok_X6_takeRow_0 (i := 21) (q := 41) rfl rfl) fk_X6_102 hr1 <|
    V_icmp_eq (tat ok_X6_takeRow_0 (i := 22) (q := 44) rfl rfl) rfl (fun c9 => V_pick [1, 2, 0] rfl (V_X6_takeRow_50 hr1 hr (jq (P := oP P) kq (Eq.trans (if_neg c1) (Eq.trans (if_neg c3) (Eq.trans (if_neg c5) (if_pos c9))))))) (fun c9 => V_pick [1, 2] rfl (V_X6_takeRow_44 hr1 hr (jq (P := oP P) kq (Eq.trans (if_neg c1) (Eq.trans (if_neg c3) (Eq.trans (if_neg c5) (if_neg c9)))))))))) (fun c1 => V_aload_n (tat ok_X6_takeRow_0 (i := 3) (q := 8) rfl rfl) 0 rfl rfl <|
    V_iconst (tat ok_X6_takeRow_0 (i := 4) (q := 9) rfl rfl) ic_2 <|
    V_cv1 (ct_X6_refuse I L 2 ) mo_X6_refuse (tat ok_X6_takeRow_0 (i := 5) (q := 12) rfl rfl) ml_X6_85 rfl ⟨by decide, _, rfl, rfl⟩ ⟨(Nat.le_of_ble_eq_true rfl), (Nat.le_of_ble_eq_true rfl)⟩ ⟨(Nat.le_of_ble_eq_true rfl), (Nat.le_of_ble_eq_true rfl)⟩ (Nat.le_of_ble_eq_true rfl) <|
    (if c2 : bz (p1 (F_X6_refuse I 2)) = (p1 (F_X6_refuse I 2)) then V_iret (tat ok_X6_takeRow_0 (i := 6) (q := 13) rfl rfl) _ rfl (bz_nf c2).1 (hr ((p1 (F_X6_refuse I 2)), (p2 (F_X6_refuse I 2)), L) (jq (P := oP P) kq (Eq.trans (if_pos c1) (if_pos c2)))) ⟨(Nat.le_of_ble_eq_true rfl), (Nat.le_of_ble_eq_true rfl)⟩ else ((jq (P := oP P) kq (Eq.trans (if_pos c1) (if_neg c2)))).elim))
theorem ct_X6_takeRow  (I : WI) (L : WL) (r1 : Nat) (hr1 : isX0 r1) {v : (Int32 × WI × WL)} (h : (F_X6_takeRow I L r1) = some v) : Ct x_X6_takeRow 3 [.ref 11, .ref r1] ly0 I L R0 0 0 (some (.int (p1 v)), ly0, (p1 (p2 v)), (p2 (p2 v)), R0) :=
  Ct_of_V mo_X6_takeRow.1 (Nat.le_of_ble_eq_true rfl) (V_X6_takeRow (P := fun x => x = v) hr1 (fun _ e => by rw [e]) (by rw [h]; exact rfl))
def F_X6_takeRows_52_1 (I : WI) (L : WL) (r1 : Nat) (a2 : Int32) : Option (((Int32 × WI × WL) ⊕ (WI × WL)) ⊕ (Int32 × WI × WL)) :=
  (Option.bind (F_X6_takeRow I L r1) (fun v5 => (if (p1 v5) = 0 then some (.inl (.inl (0, (p1 (p2 v5)), (p2 (p2 v5))))) else some (.inr ((a2 + 1), (p1 (p2 v5)), (p2 (p2 v5)))))))
theorem V_X6_takeRows_52_1  {I : WI} {L : WL} {r1 : Nat} {a2 : Int32} {P : (((Int32 × WI × WL) ⊕ (WI × WL)) ⊕ (Int32 × WI × WL)) → Prop} {t : Tg} (hr1 : isX0 r1) (hr : ∀ v, P (.inl (.inl v)) → t = (some (.int (p1 v)), ly0, (p1 (p2 v)), (p2 (p2 v)), R0)) (he : ∀ x : (WI × WL), P (.inl (.inr x)) → V (zM x_X6_takeRows 4 0 0 t) 68 [(0, .ref 11), (1, .ref r1)] [] ly0 (p1 x) (p2 x) R0 0 0) (hk : ∀ x : (Int32 × WI × WL), P (.inr x) → V (zM x_X6_takeRows 4 0 0 t) 25 [(0, .ref 11), (1, .ref r1), (2, .int (p1 x))] [] ly0 (p1 (p2 x)) (p2 (p2 x)) R0 0 0) : oP P (F_X6_takeRows_52_1 I L r1 a2) → V (zM x_X6_takeRows 4 0 0 t) 52 [(0, .ref 11), (1, .ref r1), (2, .int a2)] [] ly0 I L R0 0 0 :=
  fun _ =>
  have kq : (oP P (F_X6_takeRows_52_1 I L r1 a2)) ∧ True := ⟨by assumption, trivial⟩
  V_aload_n (tat ok_X6_takeRows_0 (i := 29) (q := 53) rfl rfl) 0 rfl rfl <|
    V_aload_n (tat ok_X6_takeRows_0 (i := 30) (q := 54) rfl rfl) 1 rfl rfl <|
    oP_case (jq (P := oP P) kq rfl) (fun v5 e5 _ => V_cv1 (ct_X6_takeRow I L r1 hr1 e5) mo_X6_takeRow (tat ok_X6_takeRows_0 (i := 31) (q := 57) rfl rfl) ml_X6_96 rfl ⟨by decide, _, rfl, rfl⟩ ⟨(Nat.le_of_ble_eq_true rfl), (Nat.le_of_ble_eq_true rfl)⟩ ⟨(Nat.le_of_ble_eq_true rfl), (Nat.le_of_ble_eq_true rfl)⟩ (Nat.le_of_ble_eq_true rfl) <|
    V_if_ne (tat ok_X6_takeRows_0 (i := 32) (q := 60) rfl rfl) rfl (fun c6 => V_iinc (v := (a2 + 1)) (lv' := [(2, .int (a2 + 1)), (0, .ref 11), (1, .ref r1)]) (tat ok_X6_takeRows_0 (i := 35) (q := 65) rfl rfl) 2 rfl (ia ic_1) (Nat.le_of_ble_eq_true rfl) rfl <|
    V_goto (tat ok_X6_takeRows_0 (i := 36) (q := 68) rfl rfl) rfl <|
    V_pick [1, 2, 0] rfl (hk ((a2 + 1), (p1 (p2 v5)), (p2 (p2 v5))) (jq (P := oP P) kq (Eq.trans (ob e5) (if_neg c6))))) (fun c6 => V_iconst (tat ok_X6_takeRows_0 (i := 33) (q := 61) rfl rfl) ic_0 <|
    V_iret (tat ok_X6_takeRows_0 (i := 34) (q := 62) rfl rfl) _ rfl rfl (hr (0, (p1 (p2 v5)), (p2 (p2 v5))) (jq (P := oP P) kq (Eq.trans (ob e5) (if_pos c6)))) ⟨(Nat.le_of_ble_eq_true rfl), (Nat.le_of_ble_eq_true rfl)⟩))
def F_X6_takeRows_25_1 (I : WI) (L : WL) (r1 : Nat) (a2 : Int32) : Option (((Int32 × WI × WL) ⊕ (WI × WL)) ⊕ (Int32 × WI × WL)) :=
  (if 8 < a2 then some (.inl (.inr (I, L))) else (Option.bind (F_X6_step I) (fun v3 => (if (v3 r1 1) ≤ 0 then (F_X6_takeRows_52_1 v3 L r1 a2) else (if (v3 11 6) = 3 then some (.inl (.inl (1, v3, L))) else (F_X6_takeRows_52_1 v3 L r1 a2))))))
theorem V_X6_takeRows_25_1  {I : WI} {L : WL} {r1 : Nat} {a2 : Int32} {P : (((Int32 × WI × WL) ⊕ (WI × WL)) ⊕ (Int32 × WI × WL)) → Prop} {t : Tg} (hr1 : isX0 r1) (hr : ∀ v, P (.inl (.inl v)) → t = (some (.int (p1 v)), ly0, (p1 (p2 v)), (p2 (p2 v)), R0)) (he : ∀ x : (WI × WL), P (.inl (.inr x)) → V (zM x_X6_takeRows 4 0 0 t) 68 [(0, .ref 11), (1, .ref r1)] [] ly0 (p1 x) (p2 x) R0 0 0) (hk : ∀ x : (Int32 × WI × WL), P (.inr x) → V (zM x_X6_takeRows 4 0 0 t) 25 [(0, .ref 11), (1, .ref r1), (2, .int (p1 x))] [] ly0 (p1 (p2 x)) (p2 (p2 x)) R0 0 0) : oP P (F_X6_takeRows_25_1 I L r1 a2) → V (zM x_X6_takeRows 4 0 0 t) 25 [(0, .ref 11), (1, .ref r1), (2, .int a2)] [] ly0 I L R0 0 0 :=
  fun _ =>
  have kq : (oP P (F_X6_takeRows_25_1 I L r1 a2)) ∧ True := ⟨by assumption, trivial⟩
  V_iload_n (tat ok_X6_takeRows_0 (i := 15) (q := 26) rfl rfl) 2 rfl rfl <|
    V_bipush (tat ok_X6_takeRows_0 (i := 16) (q := 28) rfl rfl) bp_8 <|
    V_icmp_gt (tat ok_X6_takeRows_0 (i := 17) (q := 31) rfl rfl) rfl (fun c2 => V_pick [0, 1] rfl (he (I, L) (jq (P := oP P) kq (if_pos c2)))) (fun c2 => V_aload_n (tat ok_X6_takeRows_0 (i := 18) (q := 32) rfl rfl) 0 rfl rfl <|
    oP_case (jq (P := oP P) kq (if_neg c2)) (fun v3 e3 _ => V_cv0v (ct_X6_step I L   e3) mo_X6_step (tat ok_X6_takeRows_0 (i := 19) (q := 35) rfl rfl) ml_X6_62 rfl ⟨by decide, _, rfl, rfl⟩ ⟨(Nat.le_of_ble_eq_true rfl), (Nat.le_of_ble_eq_true rfl)⟩ ⟨(Nat.le_of_ble_eq_true rfl), (Nat.le_of_ble_eq_true rfl)⟩ (Nat.le_of_ble_eq_true rfl) <|
    V_aload_n (tat ok_X6_takeRows_0 (i := 20) (q := 36) rfl rfl) 1 rfl rfl <|
    V_getI (tat ok_X6_takeRows_0 (i := 21) (q := 39) rfl rfl) fk_X6_93 hr1 <|
    V_if_le (tat ok_X6_takeRows_0 (i := 22) (q := 42) rfl rfl) rfl (fun c4 => V_X6_takeRows_52_1 hr1 hr he hk (jq (P := oP P) kq (Eq.trans (if_neg c2) (Eq.trans (ob e3) (if_pos c4))))) (fun c4 => V_aload_n (tat ok_X6_takeRows_0 (i := 23) (q := 43) rfl rfl) 0 rfl rfl <|
    V_getI (tat ok_X6_takeRows_0 (i := 24) (q := 46) rfl rfl) fk_X6_65 rfl <|
    V_iconst (tat ok_X6_takeRows_0 (i := 25) (q := 47) rfl rfl) ic_3 <|
    V_icmp_ne (tat ok_X6_takeRows_0 (i := 26) (q := 50) rfl rfl) rfl (fun c7 => V_X6_takeRows_52_1 hr1 hr he hk (jq (P := oP P) kq (Eq.trans (if_neg c2) (Eq.trans (ob e3) (Eq.trans (if_neg c4) (if_neg c7)))))) (fun c7 => V_iconst (tat ok_X6_takeRows_0 (i := 27) (q := 51) rfl rfl) ic_1 <|
    V_iret (tat ok_X6_takeRows_0 (i := 28) (q := 52) rfl rfl) _ rfl rfl (hr (1, v3, L) (jq (P := oP P) kq (Eq.trans (if_neg c2) (Eq.trans (ob e3) (Eq.trans (if_neg c4) (if_pos c7)))))) ⟨(Nat.le_of_ble_eq_true rfl), (Nat.le_of_ble_eq_true rfl)⟩))))
def F_X6_takeRows_68 (I : WI) (L : WL) (r1 : Nat) : Option (Int32 × WI × WL) :=
  some (0, I, L)
theorem V_X6_takeRows_68  {I : WI} {L : WL} {r1 : Nat}  {P : (Int32 × WI × WL) → Prop} {t : Tg} (hr1 : isX0 r1) (hr : ∀ v, P v → t = (some (.int (p1 v)), ly0, (p1 (p2 v)), (p2 (p2 v)), R0)) : oP P (F_X6_takeRows_68 I L r1) → V (zM x_X6_takeRows 4 0 0 t) 68 [(0, .ref 11), (1, .ref r1)] [] ly0 I L R0 0 0 :=
  fun _ =>
  have kq : (oP P (F_X6_takeRows_68 I L r1)) ∧ True := ⟨by assumption, trivial⟩
  V_iconst (tat ok_X6_takeRows_0 (i := 37) (q := 69) rfl rfl) ic_0 <|
    V_iret (tat ok_X6_takeRows_0 (i := 38) (q := 70) rfl rfl) _ rfl rfl (hr (0, I, L) (jq (P := oP P) kq rfl)) ⟨(Nat.le_of_ble_eq_true rfl), (Nat.le_of_ble_eq_true rfl)⟩
def F_X6_takeRows_25 (I : WI) (L : WL) (r1 : Nat) (a2 : Int32) : Option (Int32 × WI × WL) :=
  (lpp (fun x => (F_X6_takeRows_25_1 (p1 (p2 x)) (p2 (p2 x)) r1 (p1 x))) 4294967296 (a2, I, L)).bind (Sum.elim (fun r => some (r)) (fun q => (F_X6_takeRows_68 (p1 q) (p2 q) r1)))
theorem V_X6_takeRows_25  {I : WI} {L : WL} {r1 : Nat} {a2 : Int32} {P : (Int32 × WI × WL) → Prop} {t : Tg} (hr1 : isX0 r1) (hb2 : bz a2 = a2) (hr : ∀ v, P v → t = (some (.int (p1 v)), ly0, (p1 (p2 v)), (p2 (p2 v)), R0)) (kk : oP P (F_X6_takeRows_25 I L r1 a2)) : V (zM x_X6_takeRows 4 0 0 t) 25 [(0, .ref 11), (1, .ref r1), (2, .int a2)] [] ly0 I L R0 0 0 :=
  V_lpp (fun x => (F_X6_takeRows_25_1 (p1 (p2 x)) (p2 (p2 x)) r1 (p1 x))) (fun x => V (zM x_X6_takeRows 4 0 0 t) 25 [(0, .ref 11), (1, .ref r1), (2, .int (p1 x))] [] ly0 (p1 (p2 x)) (p2 (p2 x)) R0 0 0) (Sum.elim (fun r => P (r)) (fun x => oP P ((F_X6_takeRows_68 (p1 x) (p2 x) r1)))) (s := (a2, I, L)) (fun x e0 => V_X6_takeRows_25_1 (P := Sum.elim (Sum.elim (fun r => P (r)) (fun x => oP P ((F_X6_takeRows_68 (p1 x) (p2 x) r1)))) (fun x => V (zM x_X6_takeRows 4 0 0 t) 25 [(0, .ref 11), (1, .ref r1), (2, .int (p1 x))] [] ly0 (p1 (p2 x)) (p2 (p2 x)) R0 0 0)) hr1 (fun v e => hr v e) (fun x e => V_X6_takeRows_68 hr1 hr e) (fun _ e => e) e0) (oP_sum kk)
def F_X6_takeRows (I : WI) (L : WL) (r1 : Nat) : Option (Int32 × WI × WL) :=
  (if (bz (I r1 0)) = 0 then (F_X6_takeRows_25 (u2 (u2 I r1 0 1) r1 1 0) L r1 0) else (if bz (p1 (F_X6_refuse I 4)) = (p1 (F_X6_refuse I 4)) then some ((p1 (F_X6_refuse I 4)), (p2 (F_X6_refuse I 4)), L) else none))
theorem V_X6_takeRows  {I : WI} {L : WL} {r1 : Nat}  {P : (Int32 × WI × WL) → Prop} {t : Tg} (hr1 : isX0 r1) (hr : ∀ v, P v → t = (some (.int (p1 v)), ly0, (p1 (p2 v)), (p2 (p2 v)), R0)) : oP P (F_X6_takeRows I L r1) → V (zM x_X6_takeRows 4 0 0 t) 0 [(0, .ref 11), (1, .ref r1)] [] ly0 I L R0 0 0 :=
  fun _ =>
  have kq : (oP P (F_X6_takeRows I L r1)) ∧ True := ⟨by assumption, trivial⟩
  V_aload_n (tat ok_X6_takeRows_0 (i := 0) (q := 1) rfl rfl) 1 rfl rfl <|
    V_getZ (tat ok_X6_takeRows_0 (i := 1) (q := 4) rfl rfl) fk_X6_89 hr1 <|
    V_if_eq (tat ok_X6_takeRows_0 (i := 2) (q := 7) rfl rfl) rfl (fun c1 => V_aload_n (tat ok_X6_takeRows_0 (i := 7) (q := 14) rfl rfl) 1 rfl rfl <|
    V_iconst (tat ok_X6_takeRows_0 (i := 8) (q := 15) rfl rfl) ic_1 <|
    V_putZ (tat ok_X6_takeRows_0 (i := 9) (q := 18) rfl rfl) fk_X6_89 hr1 rfl rfl <|
    V_aload_n (tat ok_X6_takeRows_0 (i := 10) (q := 19) rfl rfl) 1 rfl rfl <|
    V_iconst (tat ok_X6_takeRows_0 (i := 11) (q := 20) rfl rfl) ic_0 <|
    V_putI (tat ok_X6_takeRows_0 (i := 12) (q := 23) rfl rfl) fk_X6_93 hr1 rfl <|
    V_iconst (tat ok_X6_takeRows_0 (i := 13) (q := 24) rfl rfl) ic_0 <|
    V_istore_n (lv' := [(2, .int 0), (0, .ref 11), (1, .ref r1)]) (tat ok_X6_takeRows_0 (i := 14) (q := 25) rfl rfl) rfl (Nat.le_of_ble_eq_true rfl) rfl <|
    V_pick [1, 2, 0] rfl (V_X6_takeRows_25 hr1 rfl hr (jq (P := oP P) kq (if_pos c1)))) (fun c1 => V_aload_n (tat ok_X6_takeRows_0 (i := 3) (q := 8) rfl rfl) 0 rfl rfl <|
    V_iconst (tat ok_X6_takeRows_0 (i := 4) (q := 9) rfl rfl) ic_4 <|
    V_cv1 (ct_X6_refuse I L 4 ) mo_X6_refuse (tat ok_X6_takeRows_0 (i := 5) (q := 12) rfl rfl) ml_X6_85 rfl ⟨by decide, _, rfl, rfl⟩ ⟨(Nat.le_of_ble_eq_true rfl), (Nat.le_of_ble_eq_true rfl)⟩ ⟨(Nat.le_of_ble_eq_true rfl), (Nat.le_of_ble_eq_true rfl)⟩ (Nat.le_of_ble_eq_true rfl) <|
    (if c8 : bz (p1 (F_X6_refuse I 4)) = (p1 (F_X6_refuse I 4)) then V_iret (tat ok_X6_takeRows_0 (i := 6) (q := 13) rfl rfl) _ rfl (bz_nf c8).1 (hr ((p1 (F_X6_refuse I 4)), (p2 (F_X6_refuse I 4)), L) (jq (P := oP P) kq (Eq.trans (if_neg c1) (if_pos c8)))) ⟨(Nat.le_of_ble_eq_true rfl), (Nat.le_of_ble_eq_true rfl)⟩ else ((jq (P := oP P) kq (Eq.trans (if_neg c1) (if_neg c8)))).elim))
theorem ct_X6_takeRows  (I : WI) (L : WL) (r1 : Nat) (hr1 : isX0 r1) {v : (Int32 × WI × WL)} (h : (F_X6_takeRows I L r1) = some v) : Ct x_X6_takeRows 4 [.ref 11, .ref r1] ly0 I L R0 0 0 (some (.int (p1 v)), ly0, (p1 (p2 v)), (p2 (p2 v)), R0) :=
  Ct_of_V mo_X6_takeRows.1 (Nat.le_of_ble_eq_true rfl) (V_X6_takeRows (P := fun x => x = v) hr1 (fun _ e => by rw [e]) (by rw [h]; exact rfl))
def F_X6_kindNamed_36 (I : WI)  (s0 : Int32) : Option Int32 :=
  some s0
theorem V_X6_kindNamed_36  {I : WI} {L : WL}  {s0 : Int32} {P : Int32 → Prop} {t : Tg} (hr : ∀ v, P v → t = (some (.int v), ly0, I, L, R0)) : oP P (F_X6_kindNamed_36 I s0) → V (zM x_X6_kindNamed 6 0 0 t) 36 [(0, .ref 11)] [.int s0] ly0 I L R0 0 0 :=
  fun _ =>
  have kq : (oP P (F_X6_kindNamed_36 I s0)) ∧ True := ⟨by assumption, trivial⟩
  V_iret (tat ok_X6_kindNamed_0 (i := 19) (q := 37) rfl rfl) _ rfl (nar_int _) (hr s0 (jq (P := oP P) kq rfl)) ⟨(Nat.le_of_ble_eq_true rfl), (Nat.le_of_ble_eq_true rfl)⟩
def F_X6_kindNamed (I : WI) : Option Int32 :=
  (Option.bind (F_X6_isNamed I 3) (fun v1 => (if v1 = 0 then (Option.bind (F_X6_isNamed I 4) (fun v3 => (if v3 = 0 then (Option.bind (F_X6_isNamed I 5) (fun v5 => (if v5 = 0 then (F_X6_kindNamed_36 I (-1)) else (F_X6_kindNamed_36 I 2)))) else some 1))) else some 0)))
theorem V_X6_kindNamed  {I : WI} {L : WL}   {P : Int32 → Prop} {t : Tg} (hr : ∀ v, P v → t = (some (.int v), ly0, I, L, R0)) : oP P (F_X6_kindNamed I) → V (zM x_X6_kindNamed 6 0 0 t) 0 [(0, .ref 11)] [] ly0 I L R0 0 0 :=
  fun _ =>
  have kq : (oP P (F_X6_kindNamed I)) ∧ True := ⟨by assumption, trivial⟩
  V_aload_n (tat ok_X6_kindNamed_0 (i := 0) (q := 1) rfl rfl) 0 rfl rfl <|
    V_ldcS (i := 3) (tat ok_X6_kindNamed_0 (i := 1) (q := 3) rfl rfl) rfl rfl <|
    oP_case (jq (P := oP P) kq rfl) (fun v1 e1 _ => V_cv1 (ct_X6_isNamed I L 3 (by decide) e1) mo_X6_isNamed (tat ok_X6_kindNamed_0 (i := 2) (q := 6) rfl rfl) ml_X6_70 rfl ⟨by decide, _, rfl, rfl⟩ ⟨(Nat.le_of_ble_eq_true rfl), (Nat.le_of_ble_eq_true rfl)⟩ ⟨(Nat.le_of_ble_eq_true rfl), (Nat.le_of_ble_eq_true rfl)⟩ (Nat.le_of_ble_eq_true rfl) <|
    V_if_eq (tat ok_X6_kindNamed_0 (i := 3) (q := 9) rfl rfl) rfl (fun c2 => V_aload_n (tat ok_X6_kindNamed_0 (i := 6) (q := 12) rfl rfl) 0 rfl rfl <|
    V_ldcS (i := 4) (tat ok_X6_kindNamed_0 (i := 7) (q := 14) rfl rfl) rfl rfl <|
    oP_case (jq (P := oP P) kq (Eq.trans (ob e1) (if_pos c2))) (fun v3 e3 _ => V_cv1 (ct_X6_isNamed I L 4 (by decide) e3) mo_X6_isNamed (tat ok_X6_kindNamed_0 (i := 8) (q := 17) rfl rfl) ml_X6_70 rfl ⟨by decide, _, rfl, rfl⟩ ⟨(Nat.le_of_ble_eq_true rfl), (Nat.le_of_ble_eq_true rfl)⟩ ⟨(Nat.le_of_ble_eq_true rfl), (Nat.le_of_ble_eq_true rfl)⟩ (Nat.le_of_ble_eq_true rfl) <|
    V_if_eq (tat ok_X6_kindNamed_0 (i := 9) (q := 20) rfl rfl) rfl (fun c4 => V_aload_n (tat ok_X6_kindNamed_0 (i := 12) (q := 23) rfl rfl) 0 rfl rfl <|
    V_ldcS (i := 5) (tat ok_X6_kindNamed_0 (i := 13) (q := 25) rfl rfl) rfl rfl <|
    oP_case (jq (P := oP P) kq (Eq.trans (ob e1) (Eq.trans (if_pos c2) (Eq.trans (ob e3) (if_pos c4))))) (fun v5 e5 _ => V_cv1 (ct_X6_isNamed I L 5 (by decide) e5) mo_X6_isNamed (tat ok_X6_kindNamed_0 (i := 14) (q := 28) rfl rfl) ml_X6_70 rfl ⟨by decide, _, rfl, rfl⟩ ⟨(Nat.le_of_ble_eq_true rfl), (Nat.le_of_ble_eq_true rfl)⟩ ⟨(Nat.le_of_ble_eq_true rfl), (Nat.le_of_ble_eq_true rfl)⟩ (Nat.le_of_ble_eq_true rfl) <|
    V_if_eq (tat ok_X6_kindNamed_0 (i := 15) (q := 31) rfl rfl) rfl (fun c6 => V_iconst (tat ok_X6_kindNamed_0 (i := 18) (q := 36) rfl rfl) ic_m1 <|
    V_X6_kindNamed_36  hr (jq (P := oP P) kq (Eq.trans (ob e1) (Eq.trans (if_pos c2) (Eq.trans (ob e3) (Eq.trans (if_pos c4) (Eq.trans (ob e5) (if_pos c6)))))))) (fun c6 => V_iconst (tat ok_X6_kindNamed_0 (i := 16) (q := 32) rfl rfl) ic_2 <|
    V_goto (tat ok_X6_kindNamed_0 (i := 17) (q := 35) rfl rfl) rfl <|
    V_X6_kindNamed_36  hr (jq (P := oP P) kq (Eq.trans (ob e1) (Eq.trans (if_pos c2) (Eq.trans (ob e3) (Eq.trans (if_pos c4) (Eq.trans (ob e5) (if_neg c6)))))))))) (fun c4 => V_iconst (tat ok_X6_kindNamed_0 (i := 10) (q := 21) rfl rfl) ic_1 <|
    V_iret (tat ok_X6_kindNamed_0 (i := 11) (q := 22) rfl rfl) _ rfl (nar_int _) (hr 1 (jq (P := oP P) kq (Eq.trans (ob e1) (Eq.trans (if_pos c2) (Eq.trans (ob e3) (if_neg c4)))))) ⟨(Nat.le_of_ble_eq_true rfl), (Nat.le_of_ble_eq_true rfl)⟩))) (fun c2 => V_iconst (tat ok_X6_kindNamed_0 (i := 4) (q := 10) rfl rfl) ic_0 <|
    V_iret (tat ok_X6_kindNamed_0 (i := 5) (q := 11) rfl rfl) _ rfl (nar_int _) (hr 0 (jq (P := oP P) kq (Eq.trans (ob e1) (if_neg c2)))) ⟨(Nat.le_of_ble_eq_true rfl), (Nat.le_of_ble_eq_true rfl)⟩))
theorem ct_X6_kindNamed  (I : WI) (L : WL)  {v : Int32} (h : (F_X6_kindNamed I) = some v) : Ct x_X6_kindNamed 6 [.ref 11] ly0 I L R0 0 0 (some (.int v), ly0, I, L, R0) :=
  Ct_of_V mo_X6_kindNamed.1 (Nat.le_of_ble_eq_true rfl) (V_X6_kindNamed (P := fun x => x = v)  (fun _ e => by rw [e]) (by rw [h]; exact rfl))
def F_X6_takeNumber_30 (I : WI) (a1 : Int32) (s0 : Int32) (s1 : Int32) : Option (Int32 × WI) :=
  (if s1 ≤ s0 then some (1, (F_X1_add I 14 a1 (I 11 9))) else (if bz (p1 (F_X6_refuse I 3)) = (p1 (F_X6_refuse I 3)) then some ((p1 (F_X6_refuse I 3)), (p2 (F_X6_refuse I 3))) else none))
theorem V_X6_takeNumber_30  {I : WI} {L : WL} {a1 : Int32} {s0 : Int32} {s1 : Int32} {P : (Int32 × WI) → Prop} {t : Tg} (hr : ∀ v, P v → t = (some (.int (p1 v)), ly0, (p2 v), L, R0)) : oP P (F_X6_takeNumber_30 I a1 s0 s1) → V (zM x_X6_takeNumber 3 0 0 t) 30 [(0, .ref 11), (1, .int a1)] [.int s0, .int s1] ly0 I L R0 0 0 :=
  fun _ =>
  have kq : (oP P (F_X6_takeNumber_30 I a1 s0 s1)) ∧ True := ⟨by assumption, trivial⟩
  V_icmp_le (tat ok_X6_takeNumber_0 (i := 16) (q := 33) rfl rfl) rfl (fun c3 => V_aload_n (tat ok_X6_takeNumber_0 (i := 21) (q := 40) rfl rfl) 0 rfl rfl <|
    V_getR (tat ok_X6_takeNumber_0 (i := 22) (q := 43) rfl rfl) fk_X6_26 rfl rfl <|
    V_iload_n (tat ok_X6_takeNumber_0 (i := 23) (q := 44) rfl rfl) 1 rfl rfl <|
    V_aload_n (tat ok_X6_takeNumber_0 (i := 24) (q := 45) rfl rfl) 0 rfl rfl <|
    V_getI (tat ok_X6_takeNumber_0 (i := 25) (q := 48) rfl rfl) fk_X6_126 rfl <|
    V_cv2v (ct_X1_add I L 14 a1 (I 11 9) (⟨rfl, rfl, rfl, rfl, rfl⟩)) mo_X1_add (tat ok_X6_takeNumber_0 (i := 26) (q := 51) rfl rfl) ml_X6_129 rfl ⟨by decide, _, rfl, rfl⟩ ⟨(Nat.le_of_ble_eq_true rfl), (Nat.le_of_ble_eq_true rfl)⟩ ⟨(Nat.le_of_ble_eq_true rfl), (Nat.le_of_ble_eq_true rfl)⟩ (Nat.le_of_ble_eq_true rfl) <|
    V_iconst (tat ok_X6_takeNumber_0 (i := 27) (q := 52) rfl rfl) ic_1 <|
    V_iret (tat ok_X6_takeNumber_0 (i := 28) (q := 53) rfl rfl) _ rfl rfl (hr (1, (F_X1_add I 14 a1 (I 11 9))) (jq (P := oP P) kq (if_pos c3))) ⟨(Nat.le_of_ble_eq_true rfl), (Nat.le_of_ble_eq_true rfl)⟩) (fun c3 => V_aload_n (tat ok_X6_takeNumber_0 (i := 17) (q := 34) rfl rfl) 0 rfl rfl <|
    V_iconst (tat ok_X6_takeNumber_0 (i := 18) (q := 35) rfl rfl) ic_3 <|
    V_cv1 (ct_X6_refuse I L 3 ) mo_X6_refuse (tat ok_X6_takeNumber_0 (i := 19) (q := 38) rfl rfl) ml_X6_85 rfl ⟨by decide, _, rfl, rfl⟩ ⟨(Nat.le_of_ble_eq_true rfl), (Nat.le_of_ble_eq_true rfl)⟩ ⟨(Nat.le_of_ble_eq_true rfl), (Nat.le_of_ble_eq_true rfl)⟩ (Nat.le_of_ble_eq_true rfl) <|
    (if c4 : bz (p1 (F_X6_refuse I 3)) = (p1 (F_X6_refuse I 3)) then V_iret (tat ok_X6_takeNumber_0 (i := 20) (q := 39) rfl rfl) _ rfl (bz_nf c4).1 (hr ((p1 (F_X6_refuse I 3)), (p2 (F_X6_refuse I 3))) (jq (P := oP P) kq (Eq.trans (if_neg c3) (if_pos c4)))) ⟨(Nat.le_of_ble_eq_true rfl), (Nat.le_of_ble_eq_true rfl)⟩ else ((jq (P := oP P) kq (Eq.trans (if_neg c3) (if_neg c4)))).elim))
def F_X6_takeNumber (I : WI) (a1 : Int32) : Option (Int32 × WI) :=
  (if (I 11 6) = 2 then (if a1 = 2 then (F_X6_takeNumber_30 I a1 14 (I 11 9)) else (F_X6_takeNumber_30 I a1 7 (I 11 9))) else (if bz (p1 (F_X6_refuse I 2)) = (p1 (F_X6_refuse I 2)) then some ((p1 (F_X6_refuse I 2)), (p2 (F_X6_refuse I 2))) else none))
theorem V_X6_takeNumber  {I : WI} {L : WL} {a1 : Int32}  {P : (Int32 × WI) → Prop} {t : Tg} (hr : ∀ v, P v → t = (some (.int (p1 v)), ly0, (p2 v), L, R0)) : oP P (F_X6_takeNumber I a1) → V (zM x_X6_takeNumber 3 0 0 t) 0 [(0, .ref 11), (1, .int a1)] [] ly0 I L R0 0 0 :=
  fun _ =>
  have kq : (oP P (F_X6_takeNumber I a1)) ∧ True := ⟨by assumption, trivial⟩
  V_aload_n (tat ok_X6_takeNumber_0 (i := 0) (q := 1) rfl rfl) 0 rfl rfl <|
    V_getI (tat ok_X6_takeNumber_0 (i := 1) (q := 4) rfl rfl) fk_X6_65 rfl <|
    V_iconst (tat ok_X6_takeNumber_0 (i := 2) (q := 5) rfl rfl) ic_2 <|
    V_icmp_eq (tat ok_X6_takeNumber_0 (i := 3) (q := 8) rfl rfl) rfl (fun c1 => V_aload_n (tat ok_X6_takeNumber_0 (i := 8) (q := 15) rfl rfl) 0 rfl rfl <|
    V_getI (tat ok_X6_takeNumber_0 (i := 9) (q := 18) rfl rfl) fk_X6_126 rfl <|
    V_iload_n (tat ok_X6_takeNumber_0 (i := 10) (q := 19) rfl rfl) 1 rfl rfl <|
    V_iconst (tat ok_X6_takeNumber_0 (i := 11) (q := 20) rfl rfl) ic_2 <|
    V_icmp_ne (tat ok_X6_takeNumber_0 (i := 12) (q := 23) rfl rfl) rfl (fun c2 => V_bipush (tat ok_X6_takeNumber_0 (i := 15) (q := 30) rfl rfl) bp_7 <|
    V_X6_takeNumber_30  hr (jq (P := oP P) kq (Eq.trans (if_pos c1) (if_neg c2)))) (fun c2 => V_bipush (tat ok_X6_takeNumber_0 (i := 13) (q := 25) rfl rfl) bp_14 <|
    V_goto (tat ok_X6_takeNumber_0 (i := 14) (q := 28) rfl rfl) rfl <|
    V_X6_takeNumber_30  hr (jq (P := oP P) kq (Eq.trans (if_pos c1) (if_pos c2))))) (fun c1 => V_aload_n (tat ok_X6_takeNumber_0 (i := 4) (q := 9) rfl rfl) 0 rfl rfl <|
    V_iconst (tat ok_X6_takeNumber_0 (i := 5) (q := 10) rfl rfl) ic_2 <|
    V_cv1 (ct_X6_refuse I L 2 ) mo_X6_refuse (tat ok_X6_takeNumber_0 (i := 6) (q := 13) rfl rfl) ml_X6_85 rfl ⟨by decide, _, rfl, rfl⟩ ⟨(Nat.le_of_ble_eq_true rfl), (Nat.le_of_ble_eq_true rfl)⟩ ⟨(Nat.le_of_ble_eq_true rfl), (Nat.le_of_ble_eq_true rfl)⟩ (Nat.le_of_ble_eq_true rfl) <|
    (if c5 : bz (p1 (F_X6_refuse I 2)) = (p1 (F_X6_refuse I 2)) then V_iret (tat ok_X6_takeNumber_0 (i := 7) (q := 14) rfl rfl) _ rfl (bz_nf c5).1 (hr ((p1 (F_X6_refuse I 2)), (p2 (F_X6_refuse I 2))) (jq (P := oP P) kq (Eq.trans (if_neg c1) (if_pos c5)))) ⟨(Nat.le_of_ble_eq_true rfl), (Nat.le_of_ble_eq_true rfl)⟩ else ((jq (P := oP P) kq (Eq.trans (if_neg c1) (if_neg c5)))).elim))
theorem ct_X6_takeNumber  (I : WI) (L : WL) (a1 : Int32)  {v : (Int32 × WI)} (h : (F_X6_takeNumber I a1) = some v) : Ct x_X6_takeNumber 3 [.ref 11, .int a1] ly0 I L R0 0 0 (some (.int (p1 v)), ly0, (p2 v), L, R0) :=
  Ct_of_V mo_X6_takeNumber.1 (Nat.le_of_ble_eq_true rfl) (V_X6_takeNumber (P := fun x => x = v)  (fun _ e => by rw [e]) (by rw [h]; exact rfl))
def F_X6_takeDay_50_1 (I : WI)  (a1 : Int32) : Option (((Int32 × WI) ⊕ WI) ⊕ (Int32 × WI)) :=
  (Option.bind (F_X6_kindNamed I) (fun v5 => (if 0 ≤ v5 then (if a1 < 3 then (Option.bind (F_X6_step I) (fun v8 => (Option.bind (F_X6_takeNumber v8 v5) (fun v9 => (if (p1 v9) = 0 then some (.inl (.inl (0, (p2 v9)))) else some (.inr ((a1 + 1), (p2 v9)))))))) else (if bz (p1 (F_X6_refuse I 5)) = (p1 (F_X6_refuse I 5)) then some (.inl (.inl ((p1 (F_X6_refuse I 5)), (p2 (F_X6_refuse I 5))))) else none)) else (if bz (p1 (F_X6_refuse I 2)) = (p1 (F_X6_refuse I 2)) then some (.inl (.inl ((p1 (F_X6_refuse I 2)), (p2 (F_X6_refuse I 2))))) else none))))
theorem V_X6_takeDay_50_1  {I : WI} {L : WL}  {a1 : Int32} {P : (((Int32 × WI) ⊕ WI) ⊕ (Int32 × WI)) → Prop} {t : Tg} (hr : ∀ v, P (.inl (.inl v)) → t = (some (.int (p1 v)), ly0, (p2 v), L, R0)) (he : ∀ x : WI, P (.inl (.inr x)) → V (zM x_X6_takeDay 7 0 0 t) 96 [(0, .ref 11)] [] ly0 x L R0 0 0) (hk : ∀ x : (Int32 × WI), P (.inr x) → V (zM x_X6_takeDay 7 0 0 t) 27 [(0, .ref 11), (1, .int (p1 x))] [] ly0 (p2 x) L R0 0 0) : oP P (F_X6_takeDay_50_1 I a1) → V (zM x_X6_takeDay 7 0 0 t) 50 [(0, .ref 11), (1, .int a1)] [] ly0 I L R0 0 0 :=
  fun _ =>
  have kq : (oP P (F_X6_takeDay_50_1 I a1)) ∧ True := ⟨by assumption, trivial⟩
  V_aload_n (tat ok_X6_takeDay_0 (i := 27) (q := 51) rfl rfl) 0 rfl rfl <|
    oP_case (jq (P := oP P) kq rfl) (fun v5 e5 _ => V_cv0 (ct_X6_kindNamed I L   e5) mo_X6_kindNamed (tat ok_X6_takeDay_0 (i := 28) (q := 54) rfl rfl) ml_X6_119 rfl ⟨by decide, _, rfl, rfl⟩ ⟨(Nat.le_of_ble_eq_true rfl), (Nat.le_of_ble_eq_true rfl)⟩ ⟨(Nat.le_of_ble_eq_true rfl), (Nat.le_of_ble_eq_true rfl)⟩ (Nat.le_of_ble_eq_true rfl) <|
    V_istore_n (lv' := [(2, .int v5), (0, .ref 11), (1, .int a1)]) (tat ok_X6_takeDay_0 (i := 29) (q := 55) rfl rfl) rfl (Nat.le_of_ble_eq_true rfl) rfl <|
    V_iload_n (tat ok_X6_takeDay_0 (i := 30) (q := 56) rfl rfl) 0 rfl rfl <|
    V_if_ge (tat ok_X6_takeDay_0 (i := 31) (q := 59) rfl rfl) rfl (fun c6 => V_iload_n (tat ok_X6_takeDay_0 (i := 36) (q := 66) rfl rfl) 2 rfl rfl <|
    V_iconst (tat ok_X6_takeDay_0 (i := 37) (q := 67) rfl rfl) ic_3 <|
    V_icmp_lt (tat ok_X6_takeDay_0 (i := 38) (q := 70) rfl rfl) rfl (fun c7 => V_aload_n (tat ok_X6_takeDay_1 (i := 3) (q := 77) rfl rfl) 1 rfl rfl <|
    oP_case (jq (P := oP P) kq (Eq.trans (ob e5) (Eq.trans (if_pos c6) (if_pos c7)))) (fun v8 e8 _ => V_cv0v (ct_X6_step I L   e8) mo_X6_step (tat ok_X6_takeDay_1 (i := 4) (q := 80) rfl rfl) ml_X6_62 rfl ⟨by decide, _, rfl, rfl⟩ ⟨(Nat.le_of_ble_eq_true rfl), (Nat.le_of_ble_eq_true rfl)⟩ ⟨(Nat.le_of_ble_eq_true rfl), (Nat.le_of_ble_eq_true rfl)⟩ (Nat.le_of_ble_eq_true rfl) <|
    V_aload_n (tat ok_X6_takeDay_1 (i := 5) (q := 81) rfl rfl) 1 rfl rfl <|
    V_iload_n (tat ok_X6_takeDay_1 (i := 6) (q := 82) rfl rfl) 0 rfl rfl <|
    oP_case (jq (P := oP P) kq (Eq.trans (ob e5) (Eq.trans (if_pos c6) (Eq.trans (if_pos c7) (ob e8))))) (fun v9 e9 _ => V_cv1 (ct_X6_takeNumber v8 L v5  e9) mo_X6_takeNumber (tat ok_X6_takeDay_1 (i := 7) (q := 85) rfl rfl) ml_X6_123 rfl ⟨by decide, _, rfl, rfl⟩ ⟨(Nat.le_of_ble_eq_true rfl), (Nat.le_of_ble_eq_true rfl)⟩ ⟨(Nat.le_of_ble_eq_true rfl), (Nat.le_of_ble_eq_true rfl)⟩ (Nat.le_of_ble_eq_true rfl) <|
    V_if_ne (tat ok_X6_takeDay_1 (i := 8) (q := 88) rfl rfl) rfl (fun c10 => V_iinc (v := (a1 + 1)) (lv' := [(1, .int (a1 + 1)), (2, .int v5), (0, .ref 11)]) (tat ok_X6_takeDay_1 (i := 11) (q := 93) rfl rfl) 2 rfl (ia ic_1) (Nat.le_of_ble_eq_true rfl) rfl <|
    V_goto (tat ok_X6_takeDay_1 (i := 12) (q := 96) rfl rfl) rfl <|
    V_pick [2, 0] rfl (hk ((a1 + 1), (p2 v9)) (jq (P := oP P) kq (Eq.trans (ob e5) (Eq.trans (if_pos c6) (Eq.trans (if_pos c7) (Eq.trans (ob e8) (Eq.trans (ob e9) (if_neg c10))))))))) (fun c10 => V_iconst (tat ok_X6_takeDay_1 (i := 9) (q := 89) rfl rfl) ic_0 <|
    V_iret (tat ok_X6_takeDay_1 (i := 10) (q := 90) rfl rfl) _ rfl rfl (hr (0, (p2 v9)) (jq (P := oP P) kq (Eq.trans (ob e5) (Eq.trans (if_pos c6) (Eq.trans (if_pos c7) (Eq.trans (ob e8) (Eq.trans (ob e9) (if_pos c10)))))))) ⟨(Nat.le_of_ble_eq_true rfl), (Nat.le_of_ble_eq_true rfl)⟩)))) (fun c7 => V_aload_n (tat ok_X6_takeDay_0 (i := 39) (q := 71) rfl rfl) 1 rfl rfl <|
    V_iconst (tat ok_X6_takeDay_1 (i := 0) (q := 72) rfl rfl) ic_5 <|
    V_cv1 (ct_X6_refuse I L 5 ) mo_X6_refuse (tat ok_X6_takeDay_1 (i := 1) (q := 75) rfl rfl) ml_X6_85 rfl ⟨by decide, _, rfl, rfl⟩ ⟨(Nat.le_of_ble_eq_true rfl), (Nat.le_of_ble_eq_true rfl)⟩ ⟨(Nat.le_of_ble_eq_true rfl), (Nat.le_of_ble_eq_true rfl)⟩ (Nat.le_of_ble_eq_true rfl) <|
    (if c11 : bz (p1 (F_X6_refuse I 5)) = (p1 (F_X6_refuse I 5)) then V_iret (tat ok_X6_takeDay_1 (i := 2) (q := 76) rfl rfl) _ rfl (bz_nf c11).1 (hr ((p1 (F_X6_refuse I 5)), (p2 (F_X6_refuse I 5))) (jq (P := oP P) kq (Eq.trans (ob e5) (Eq.trans (if_pos c6) (Eq.trans (if_neg c7) (if_pos c11)))))) ⟨(Nat.le_of_ble_eq_true rfl), (Nat.le_of_ble_eq_true rfl)⟩ else ((jq (P := oP P) kq (Eq.trans (ob e5) (Eq.trans (if_pos c6) (Eq.trans (if_neg c7) (if_neg c11)))))).elim))) (fun c6 => V_aload_n (tat ok_X6_takeDay_0 (i := 32) (q := 60) rfl rfl) 1 rfl rfl <|
    V_iconst (tat ok_X6_takeDay_0 (i := 33) (q := 61) rfl rfl) ic_2 <|
    V_cv1 (ct_X6_refuse I L 2 ) mo_X6_refuse (tat ok_X6_takeDay_0 (i := 34) (q := 64) rfl rfl) ml_X6_85 rfl ⟨by decide, _, rfl, rfl⟩ ⟨(Nat.le_of_ble_eq_true rfl), (Nat.le_of_ble_eq_true rfl)⟩ ⟨(Nat.le_of_ble_eq_true rfl), (Nat.le_of_ble_eq_true rfl)⟩ (Nat.le_of_ble_eq_true rfl) <|
    (if c12 : bz (p1 (F_X6_refuse I 2)) = (p1 (F_X6_refuse I 2)) then V_iret (tat ok_X6_takeDay_0 (i := 35) (q := 65) rfl rfl) _ rfl (bz_nf c12).1 (hr ((p1 (F_X6_refuse I 2)), (p2 (F_X6_refuse I 2))) (jq (P := oP P) kq (Eq.trans (ob e5) (Eq.trans (if_neg c6) (if_pos c12))))) ⟨(Nat.le_of_ble_eq_true rfl), (Nat.le_of_ble_eq_true rfl)⟩ else ((jq (P := oP P) kq (Eq.trans (ob e5) (Eq.trans (if_neg c6) (if_neg c12))))).elim)))
def F_X6_takeDay_27_1 (I : WI)  (a1 : Int32) : Option (((Int32 × WI) ⊕ WI) ⊕ (Int32 × WI)) :=
  (if 3 < a1 then some (.inl (.inr I)) else (Option.bind (F_X6_step I) (fun v3 => (if a1 ≤ 0 then (F_X6_takeDay_50_1 v3 a1) else (if (v3 11 6) = 3 then some (.inl (.inl (1, v3))) else (F_X6_takeDay_50_1 v3 a1))))))
theorem V_X6_takeDay_27_1  {I : WI} {L : WL}  {a1 : Int32} {P : (((Int32 × WI) ⊕ WI) ⊕ (Int32 × WI)) → Prop} {t : Tg} (hr : ∀ v, P (.inl (.inl v)) → t = (some (.int (p1 v)), ly0, (p2 v), L, R0)) (he : ∀ x : WI, P (.inl (.inr x)) → V (zM x_X6_takeDay 7 0 0 t) 96 [(0, .ref 11)] [] ly0 x L R0 0 0) (hk : ∀ x : (Int32 × WI), P (.inr x) → V (zM x_X6_takeDay 7 0 0 t) 27 [(0, .ref 11), (1, .int (p1 x))] [] ly0 (p2 x) L R0 0 0) : oP P (F_X6_takeDay_27_1 I a1) → V (zM x_X6_takeDay 7 0 0 t) 27 [(0, .ref 11), (1, .int a1)] [] ly0 I L R0 0 0 :=
  fun _ =>
  have kq : (oP P (F_X6_takeDay_27_1 I a1)) ∧ True := ⟨by assumption, trivial⟩
  V_iload_n (tat ok_X6_takeDay_0 (i := 14) (q := 28) rfl rfl) 1 rfl rfl <|
    V_iconst (tat ok_X6_takeDay_0 (i := 15) (q := 29) rfl rfl) ic_3 <|
    V_icmp_gt (tat ok_X6_takeDay_0 (i := 16) (q := 32) rfl rfl) rfl (fun c2 => V_pick [0] rfl (he I (jq (P := oP P) kq (if_pos c2)))) (fun c2 => V_aload_n (tat ok_X6_takeDay_0 (i := 17) (q := 33) rfl rfl) 0 rfl rfl <|
    oP_case (jq (P := oP P) kq (if_neg c2)) (fun v3 e3 _ => V_cv0v (ct_X6_step I L   e3) mo_X6_step (tat ok_X6_takeDay_0 (i := 18) (q := 36) rfl rfl) ml_X6_62 rfl ⟨by decide, _, rfl, rfl⟩ ⟨(Nat.le_of_ble_eq_true rfl), (Nat.le_of_ble_eq_true rfl)⟩ ⟨(Nat.le_of_ble_eq_true rfl), (Nat.le_of_ble_eq_true rfl)⟩ (Nat.le_of_ble_eq_true rfl) <|
    V_iload_n (tat ok_X6_takeDay_0 (i := 19) (q := 37) rfl rfl) 1 rfl rfl <|
    V_if_le (tat ok_X6_takeDay_0 (i := 20) (q := 40) rfl rfl) rfl (fun c4 => V_X6_takeDay_50_1  hr he hk (jq (P := oP P) kq (Eq.trans (if_neg c2) (Eq.trans (ob e3) (if_pos c4))))) (fun c4 => V_aload_n (tat ok_X6_takeDay_0 (i := 21) (q := 41) rfl rfl) 0 rfl rfl <|
    V_getI (tat ok_X6_takeDay_0 (i := 22) (q := 44) rfl rfl) fk_X6_65 rfl <|
    V_iconst (tat ok_X6_takeDay_0 (i := 23) (q := 45) rfl rfl) ic_3 <|
    V_icmp_ne (tat ok_X6_takeDay_0 (i := 24) (q := 48) rfl rfl) rfl (fun c13 => V_X6_takeDay_50_1  hr he hk (jq (P := oP P) kq (Eq.trans (if_neg c2) (Eq.trans (ob e3) (Eq.trans (if_neg c4) (if_neg c13)))))) (fun c13 => V_iconst (tat ok_X6_takeDay_0 (i := 25) (q := 49) rfl rfl) ic_1 <|
    V_iret (tat ok_X6_takeDay_0 (i := 26) (q := 50) rfl rfl) _ rfl rfl (hr (1, v3) (jq (P := oP P) kq (Eq.trans (if_neg c2) (Eq.trans (ob e3) (Eq.trans (if_neg c4) (if_pos c13)))))) ⟨(Nat.le_of_ble_eq_true rfl), (Nat.le_of_ble_eq_true rfl)⟩))))
def F_X6_takeDay_96 (I : WI) : Option (Int32 × WI) :=
  some (0, I)
theorem V_X6_takeDay_96  {I : WI} {L : WL}   {P : (Int32 × WI) → Prop} {t : Tg} (hr : ∀ v, P v → t = (some (.int (p1 v)), ly0, (p2 v), L, R0)) : oP P (F_X6_takeDay_96 I) → V (zM x_X6_takeDay 7 0 0 t) 96 [(0, .ref 11)] [] ly0 I L R0 0 0 :=
  fun _ =>
  have kq : (oP P (F_X6_takeDay_96 I)) ∧ True := ⟨by assumption, trivial⟩
  V_iconst (tat ok_X6_takeDay_1 (i := 13) (q := 97) rfl rfl) ic_0 <|
    V_iret (tat ok_X6_takeDay_1 (i := 14) (q := 98) rfl rfl) _ rfl rfl (hr (0, I) (jq (P := oP P) kq rfl)) ⟨(Nat.le_of_ble_eq_true rfl), (Nat.le_of_ble_eq_true rfl)⟩
def F_X6_takeDay_27 (I : WI)  (a1 : Int32) : Option (Int32 × WI) :=
  (lpp (fun x => (F_X6_takeDay_27_1 (p2 x) (p1 x))) 4294967296 (a1, I)).bind (Sum.elim (fun r => some (r)) (fun q => (F_X6_takeDay_96 q)))
theorem V_X6_takeDay_27  {I : WI} {L : WL}  {a1 : Int32} {P : (Int32 × WI) → Prop} {t : Tg} (hb1 : bz a1 = a1) (hr : ∀ v, P v → t = (some (.int (p1 v)), ly0, (p2 v), L, R0)) (kk : oP P (F_X6_takeDay_27 I a1)) : V (zM x_X6_takeDay 7 0 0 t) 27 [(0, .ref 11), (1, .int a1)] [] ly0 I L R0 0 0 :=
  V_lpp (fun x => (F_X6_takeDay_27_1 (p2 x) (p1 x))) (fun x => V (zM x_X6_takeDay 7 0 0 t) 27 [(0, .ref 11), (1, .int (p1 x))] [] ly0 (p2 x) L R0 0 0) (Sum.elim (fun r => P (r)) (fun x => oP P ((F_X6_takeDay_96 x)))) (s := (a1, I)) (fun x e0 => V_X6_takeDay_27_1 (P := Sum.elim (Sum.elim (fun r => P (r)) (fun x => oP P ((F_X6_takeDay_96 x)))) (fun x => V (zM x_X6_takeDay 7 0 0 t) 27 [(0, .ref 11), (1, .int (p1 x))] [] ly0 (p2 x) L R0 0 0))  (fun v e => hr v e) (fun x e => V_X6_takeDay_96  hr e) (fun _ e => e) e0) (oP_sum kk)
def F_X6_takeDay (I : WI) : Option (Int32 × WI) :=
  (if (I 14 0) < 12 then (F_X6_takeDay_27 (F_X1_begin I 14) 0) else (if bz (p1 (F_X6_refuse I 5)) = (p1 (F_X6_refuse I 5)) then some ((p1 (F_X6_refuse I 5)), (p2 (F_X6_refuse I 5))) else none))
theorem V_X6_takeDay  {I : WI} {L : WL}   {P : (Int32 × WI) → Prop} {t : Tg} (hr : ∀ v, P v → t = (some (.int (p1 v)), ly0, (p2 v), L, R0)) : oP P (F_X6_takeDay I) → V (zM x_X6_takeDay 7 0 0 t) 0 [(0, .ref 11)] [] ly0 I L R0 0 0 :=
  fun _ =>
  have kq : (oP P (F_X6_takeDay I)) ∧ True := ⟨by assumption, trivial⟩
  V_aload_n (tat ok_X6_takeDay_0 (i := 0) (q := 1) rfl rfl) 0 rfl rfl <|
    V_getR (tat ok_X6_takeDay_0 (i := 1) (q := 4) rfl rfl) fk_X6_26 rfl rfl <|
    V_getI (tat ok_X6_takeDay_0 (i := 2) (q := 7) rfl rfl) fk_X6_113 rfl <|
    V_bipush (tat ok_X6_takeDay_0 (i := 3) (q := 9) rfl rfl) bp_12 <|
    V_icmp_lt (tat ok_X6_takeDay_0 (i := 4) (q := 12) rfl rfl) rfl (fun c1 => V_aload_n (tat ok_X6_takeDay_0 (i := 9) (q := 19) rfl rfl) 0 rfl rfl <|
    V_getR (tat ok_X6_takeDay_0 (i := 10) (q := 22) rfl rfl) fk_X6_26 rfl rfl <|
    V_cv0v (ct_X1_begin I L 14 (⟨rfl, rfl, rfl, rfl, rfl⟩)) mo_X1_begin (tat ok_X6_takeDay_0 (i := 11) (q := 25) rfl rfl) ml_X6_116 rfl ⟨by decide, _, rfl, rfl⟩ ⟨(Nat.le_of_ble_eq_true rfl), (Nat.le_of_ble_eq_true rfl)⟩ ⟨(Nat.le_of_ble_eq_true rfl), (Nat.le_of_ble_eq_true rfl)⟩ (Nat.le_of_ble_eq_true rfl) <|
    V_iconst (tat ok_X6_takeDay_0 (i := 12) (q := 26) rfl rfl) ic_0 <|
    V_istore_n (lv' := [(1, .int 0), (0, .ref 11)]) (tat ok_X6_takeDay_0 (i := 13) (q := 27) rfl rfl) rfl (Nat.le_of_ble_eq_true rfl) rfl <|
    V_pick [1, 0] rfl (V_X6_takeDay_27 rfl hr (jq (P := oP P) kq (if_pos c1)))) (fun c1 => V_aload_n (tat ok_X6_takeDay_0 (i := 5) (q := 13) rfl rfl) 0 rfl rfl <|
    V_iconst (tat ok_X6_takeDay_0 (i := 6) (q := 14) rfl rfl) ic_5 <|
    V_cv1 (ct_X6_refuse I L 5 ) mo_X6_refuse (tat ok_X6_takeDay_0 (i := 7) (q := 17) rfl rfl) ml_X6_85 rfl ⟨by decide, _, rfl, rfl⟩ ⟨(Nat.le_of_ble_eq_true rfl), (Nat.le_of_ble_eq_true rfl)⟩ ⟨(Nat.le_of_ble_eq_true rfl), (Nat.le_of_ble_eq_true rfl)⟩ (Nat.le_of_ble_eq_true rfl) <|
    (if c14 : bz (p1 (F_X6_refuse I 5)) = (p1 (F_X6_refuse I 5)) then V_iret (tat ok_X6_takeDay_0 (i := 8) (q := 18) rfl rfl) _ rfl (bz_nf c14).1 (hr ((p1 (F_X6_refuse I 5)), (p2 (F_X6_refuse I 5))) (jq (P := oP P) kq (Eq.trans (if_neg c1) (if_pos c14)))) ⟨(Nat.le_of_ble_eq_true rfl), (Nat.le_of_ble_eq_true rfl)⟩ else ((jq (P := oP P) kq (Eq.trans (if_neg c1) (if_neg c14)))).elim))
theorem ct_X6_takeDay  (I : WI) (L : WL)  {v : (Int32 × WI)} (h : (F_X6_takeDay I) = some v) : Ct x_X6_takeDay 7 [.ref 11] ly0 I L R0 0 0 (some (.int (p1 v)), ly0, (p2 v), L, R0) :=
  Ct_of_V mo_X6_takeDay.1 (Nat.le_of_ble_eq_true rfl) (V_X6_takeDay (P := fun x => x = v)  (fun _ e => by rw [e]) (by rw [h]; exact rfl))
def F_X6_takeLine_70 (I : WI) (L : WL)  (s0 : Int32) : Option (Int32 × WI × WL) :=
  (if bz s0 = s0 then some (s0, I, L) else none)
theorem V_X6_takeLine_70  {I : WI} {L : WL}  {s0 : Int32} {P : (Int32 × WI × WL) → Prop} {t : Tg} (hr : ∀ v, P v → t = (some (.int (p1 v)), ly0, (p1 (p2 v)), (p2 (p2 v)), R0)) : oP P (F_X6_takeLine_70 I L s0) → V (zM x_X6_takeLine 8 0 0 t) 70 [(0, .ref 11)] [.int s0] ly0 I L R0 0 0 :=
  fun _ =>
  have kq : (oP P (F_X6_takeLine_70 I L s0)) ∧ True := ⟨by assumption, trivial⟩
  (if c9 : bz s0 = s0 then V_iret (tat ok_X6_takeLine_0 (i := 35) (q := 71) rfl rfl) _ rfl (bz_nf c9).1 (hr (s0, I, L) (jq (P := oP P) kq (if_pos c9))) ⟨(Nat.le_of_ble_eq_true rfl), (Nat.le_of_ble_eq_true rfl)⟩ else ((jq (P := oP P) kq (if_neg c9))).elim)
def F_X6_takeLine (I : WI) (L : WL) : Option (Int32 × WI × WL) :=
  (Option.bind (F_X6_step I) (fun v1 => (if (v1 11 6) = 0 then some (0, v1, L) else (Option.bind (F_X6_isNamed v1 0) (fun v3 => (if v3 = 0 then (Option.bind (F_X6_isNamed v1 1) (fun v5 => (if v5 = 0 then (Option.bind (F_X6_isNamed v1 2) (fun v7 => (if v7 = 0 then (F_X6_takeLine_70 (p2 (F_X6_refuse v1 2)) L (p1 (F_X6_refuse v1 2))) else (Option.bind (F_X6_takeDay v1) (fun v10 => (F_X6_takeLine_70 (p2 v10) L (p1 v10))))))) else (Option.bind (F_X6_takeRows v1 L 13) (fun v11 => (if bz (p1 v11) = (p1 v11) then some ((p1 v11), (p1 (p2 v11)), (p2 (p2 v11))) else none)))))) else (Option.bind (F_X6_takeRows v1 L 12) (fun v13 => (if bz (p1 v13) = (p1 v13) then some ((p1 v13), (p1 (p2 v13)), (p2 (p2 v13))) else none)))))))))
theorem V_X6_takeLine  {I : WI} {L : WL}   {P : (Int32 × WI × WL) → Prop} {t : Tg} (hr : ∀ v, P v → t = (some (.int (p1 v)), ly0, (p1 (p2 v)), (p2 (p2 v)), R0)) : oP P (F_X6_takeLine I L) → V (zM x_X6_takeLine 8 0 0 t) 0 [(0, .ref 11)] [] ly0 I L R0 0 0 :=
  fun _ =>
  have kq : (oP P (F_X6_takeLine I L)) ∧ True := ⟨by assumption, trivial⟩
  V_aload_n (tat ok_X6_takeLine_0 (i := 0) (q := 1) rfl rfl) 0 rfl rfl <|
    oP_case (jq (P := oP P) kq rfl) (fun v1 e1 _ => V_cv0v (ct_X6_step I L   e1) mo_X6_step (tat ok_X6_takeLine_0 (i := 1) (q := 4) rfl rfl) ml_X6_62 rfl ⟨by decide, _, rfl, rfl⟩ ⟨(Nat.le_of_ble_eq_true rfl), (Nat.le_of_ble_eq_true rfl)⟩ ⟨(Nat.le_of_ble_eq_true rfl), (Nat.le_of_ble_eq_true rfl)⟩ (Nat.le_of_ble_eq_true rfl) <|
    V_aload_n (tat ok_X6_takeLine_0 (i := 2) (q := 5) rfl rfl) 0 rfl rfl <|
    V_getI (tat ok_X6_takeLine_0 (i := 3) (q := 8) rfl rfl) fk_X6_65 rfl <|
    V_if_ne (tat ok_X6_takeLine_0 (i := 4) (q := 11) rfl rfl) rfl (fun c2 => V_aload_n (tat ok_X6_takeLine_0 (i := 7) (q := 14) rfl rfl) 0 rfl rfl <|
    V_ldcS (i := 0) (tat ok_X6_takeLine_0 (i := 8) (q := 16) rfl rfl) rfl rfl <|
    oP_case (jq (P := oP P) kq (Eq.trans (ob e1) (if_neg c2))) (fun v3 e3 _ => V_cv1 (ct_X6_isNamed v1 L 0 (by decide) e3) mo_X6_isNamed (tat ok_X6_takeLine_0 (i := 9) (q := 19) rfl rfl) ml_X6_70 rfl ⟨by decide, _, rfl, rfl⟩ ⟨(Nat.le_of_ble_eq_true rfl), (Nat.le_of_ble_eq_true rfl)⟩ ⟨(Nat.le_of_ble_eq_true rfl), (Nat.le_of_ble_eq_true rfl)⟩ (Nat.le_of_ble_eq_true rfl) <|
    V_if_eq (tat ok_X6_takeLine_0 (i := 10) (q := 22) rfl rfl) rfl (fun c4 => V_aload_n (tat ok_X6_takeLine_0 (i := 16) (q := 32) rfl rfl) 0 rfl rfl <|
    V_ldcS (i := 1) (tat ok_X6_takeLine_0 (i := 17) (q := 34) rfl rfl) rfl rfl <|
    oP_case (jq (P := oP P) kq (Eq.trans (ob e1) (Eq.trans (if_neg c2) (Eq.trans (ob e3) (if_pos c4))))) (fun v5 e5 _ => V_cv1 (ct_X6_isNamed v1 L 1 (by decide) e5) mo_X6_isNamed (tat ok_X6_takeLine_0 (i := 18) (q := 37) rfl rfl) ml_X6_70 rfl ⟨by decide, _, rfl, rfl⟩ ⟨(Nat.le_of_ble_eq_true rfl), (Nat.le_of_ble_eq_true rfl)⟩ ⟨(Nat.le_of_ble_eq_true rfl), (Nat.le_of_ble_eq_true rfl)⟩ (Nat.le_of_ble_eq_true rfl) <|
    V_if_eq (tat ok_X6_takeLine_0 (i := 19) (q := 40) rfl rfl) rfl (fun c6 => V_aload_n (tat ok_X6_takeLine_0 (i := 25) (q := 50) rfl rfl) 0 rfl rfl <|
    V_ldcS (i := 2) (tat ok_X6_takeLine_0 (i := 26) (q := 52) rfl rfl) rfl rfl <|
    oP_case (jq (P := oP P) kq (Eq.trans (ob e1) (Eq.trans (if_neg c2) (Eq.trans (ob e3) (Eq.trans (if_pos c4) (Eq.trans (ob e5) (if_pos c6))))))) (fun v7 e7 _ => V_cv1 (ct_X6_isNamed v1 L 2 (by decide) e7) mo_X6_isNamed (tat ok_X6_takeLine_0 (i := 27) (q := 55) rfl rfl) ml_X6_70 rfl ⟨by decide, _, rfl, rfl⟩ ⟨(Nat.le_of_ble_eq_true rfl), (Nat.le_of_ble_eq_true rfl)⟩ ⟨(Nat.le_of_ble_eq_true rfl), (Nat.le_of_ble_eq_true rfl)⟩ (Nat.le_of_ble_eq_true rfl) <|
    V_if_eq (tat ok_X6_takeLine_0 (i := 28) (q := 58) rfl rfl) rfl (fun c8 => V_aload_n (tat ok_X6_takeLine_0 (i := 32) (q := 66) rfl rfl) 0 rfl rfl <|
    V_iconst (tat ok_X6_takeLine_0 (i := 33) (q := 67) rfl rfl) ic_2 <|
    V_cv1 (ct_X6_refuse v1 L 2 ) mo_X6_refuse (tat ok_X6_takeLine_0 (i := 34) (q := 70) rfl rfl) ml_X6_85 rfl ⟨by decide, _, rfl, rfl⟩ ⟨(Nat.le_of_ble_eq_true rfl), (Nat.le_of_ble_eq_true rfl)⟩ ⟨(Nat.le_of_ble_eq_true rfl), (Nat.le_of_ble_eq_true rfl)⟩ (Nat.le_of_ble_eq_true rfl) <|
    V_X6_takeLine_70  hr (jq (P := oP P) kq (Eq.trans (ob e1) (Eq.trans (if_neg c2) (Eq.trans (ob e3) (Eq.trans (if_pos c4) (Eq.trans (ob e5) (Eq.trans (if_pos c6) (Eq.trans (ob e7) (if_pos c8)))))))))) (fun c8 => V_aload_n (tat ok_X6_takeLine_0 (i := 29) (q := 59) rfl rfl) 0 rfl rfl <|
    oP_case (jq (P := oP P) kq (Eq.trans (ob e1) (Eq.trans (if_neg c2) (Eq.trans (ob e3) (Eq.trans (if_pos c4) (Eq.trans (ob e5) (Eq.trans (if_pos c6) (Eq.trans (ob e7) (if_neg c8))))))))) (fun v10 e10 _ => V_cv0 (ct_X6_takeDay v1 L   e10) mo_X6_takeDay (tat ok_X6_takeLine_0 (i := 30) (q := 62) rfl rfl) ml_X6_82 rfl ⟨by decide, _, rfl, rfl⟩ ⟨(Nat.le_of_ble_eq_true rfl), (Nat.le_of_ble_eq_true rfl)⟩ ⟨(Nat.le_of_ble_eq_true rfl), (Nat.le_of_ble_eq_true rfl)⟩ (Nat.le_of_ble_eq_true rfl) <|
    V_goto (tat ok_X6_takeLine_0 (i := 31) (q := 65) rfl rfl) rfl <|
    V_X6_takeLine_70  hr (jq (P := oP P) kq (Eq.trans (ob e1) (Eq.trans (if_neg c2) (Eq.trans (ob e3) (Eq.trans (if_pos c4) (Eq.trans (ob e5) (Eq.trans (if_pos c6) (Eq.trans (ob e7) (Eq.trans (if_neg c8) (ob e10)))))))))))))) (fun c6 => V_aload_n (tat ok_X6_takeLine_0 (i := 20) (q := 41) rfl rfl) 0 rfl rfl <|
    V_aload_n (tat ok_X6_takeLine_0 (i := 21) (q := 42) rfl rfl) 0 rfl rfl <|
    V_getR (tat ok_X6_takeLine_0 (i := 22) (q := 45) rfl rfl) fk_X6_20 rfl rfl <|
    oP_case (jq (P := oP P) kq (Eq.trans (ob e1) (Eq.trans (if_neg c2) (Eq.trans (ob e3) (Eq.trans (if_pos c4) (Eq.trans (ob e5) (if_neg c6))))))) (fun v11 e11 _ => V_cv1 (ct_X6_takeRows v1 L 13 rfl e11) mo_X6_takeRows (tat ok_X6_takeLine_0 (i := 23) (q := 48) rfl rfl) ml_X6_74 rfl ⟨by decide, _, rfl, rfl⟩ ⟨(Nat.le_of_ble_eq_true rfl), (Nat.le_of_ble_eq_true rfl)⟩ ⟨(Nat.le_of_ble_eq_true rfl), (Nat.le_of_ble_eq_true rfl)⟩ (Nat.le_of_ble_eq_true rfl) <|
    (if c12 : bz (p1 v11) = (p1 v11) then V_iret (tat ok_X6_takeLine_0 (i := 24) (q := 49) rfl rfl) _ rfl (bz_nf c12).1 (hr ((p1 v11), (p1 (p2 v11)), (p2 (p2 v11))) (jq (P := oP P) kq (Eq.trans (ob e1) (Eq.trans (if_neg c2) (Eq.trans (ob e3) (Eq.trans (if_pos c4) (Eq.trans (ob e5) (Eq.trans (if_neg c6) (Eq.trans (ob e11) (if_pos c12)))))))))) ⟨(Nat.le_of_ble_eq_true rfl), (Nat.le_of_ble_eq_true rfl)⟩ else ((jq (P := oP P) kq (Eq.trans (ob e1) (Eq.trans (if_neg c2) (Eq.trans (ob e3) (Eq.trans (if_pos c4) (Eq.trans (ob e5) (Eq.trans (if_neg c6) (Eq.trans (ob e11) (if_neg c12)))))))))).elim))))) (fun c4 => V_aload_n (tat ok_X6_takeLine_0 (i := 11) (q := 23) rfl rfl) 0 rfl rfl <|
    V_aload_n (tat ok_X6_takeLine_0 (i := 12) (q := 24) rfl rfl) 0 rfl rfl <|
    V_getR (tat ok_X6_takeLine_0 (i := 13) (q := 27) rfl rfl) fk_X6_14 rfl rfl <|
    oP_case (jq (P := oP P) kq (Eq.trans (ob e1) (Eq.trans (if_neg c2) (Eq.trans (ob e3) (if_neg c4))))) (fun v13 e13 _ => V_cv1 (ct_X6_takeRows v1 L 12 rfl e13) mo_X6_takeRows (tat ok_X6_takeLine_0 (i := 14) (q := 30) rfl rfl) ml_X6_74 rfl ⟨by decide, _, rfl, rfl⟩ ⟨(Nat.le_of_ble_eq_true rfl), (Nat.le_of_ble_eq_true rfl)⟩ ⟨(Nat.le_of_ble_eq_true rfl), (Nat.le_of_ble_eq_true rfl)⟩ (Nat.le_of_ble_eq_true rfl) <|
    (if c14 : bz (p1 v13) = (p1 v13) then V_iret (tat ok_X6_takeLine_0 (i := 15) (q := 31) rfl rfl) _ rfl (bz_nf c14).1 (hr ((p1 v13), (p1 (p2 v13)), (p2 (p2 v13))) (jq (P := oP P) kq (Eq.trans (ob e1) (Eq.trans (if_neg c2) (Eq.trans (ob e3) (Eq.trans (if_neg c4) (Eq.trans (ob e13) (if_pos c14)))))))) ⟨(Nat.le_of_ble_eq_true rfl), (Nat.le_of_ble_eq_true rfl)⟩ else ((jq (P := oP P) kq (Eq.trans (ob e1) (Eq.trans (if_neg c2) (Eq.trans (ob e3) (Eq.trans (if_neg c4) (Eq.trans (ob e13) (if_neg c14)))))))).elim))))) (fun c2 => V_iconst (tat ok_X6_takeLine_0 (i := 5) (q := 12) rfl rfl) ic_0 <|
    V_iret (tat ok_X6_takeLine_0 (i := 6) (q := 13) rfl rfl) _ rfl rfl (hr (0, v1, L) (jq (P := oP P) kq (Eq.trans (ob e1) (if_pos c2)))) ⟨(Nat.le_of_ble_eq_true rfl), (Nat.le_of_ble_eq_true rfl)⟩))
theorem ct_X6_takeLine  (I : WI) (L : WL)  {v : (Int32 × WI × WL)} (h : (F_X6_takeLine I L) = some v) : Ct x_X6_takeLine 8 [.ref 11] ly0 I L R0 0 0 (some (.int (p1 v)), ly0, (p1 (p2 v)), (p2 (p2 v)), R0) :=
  Ct_of_V mo_X6_takeLine.1 (Nat.le_of_ble_eq_true rfl) (V_X6_takeLine (P := fun x => x = v)  (fun _ e => by rw [e]) (by rw [h]; exact rfl))
def F_X6_judgeWhole_93_2 (I : WI) (a1 : Int32) (a2 : Int32) : Option (WI ⊕ (Int32 × WI)) :=
  some (.inr ((a2 + 1), I))
theorem V_X6_judgeWhole_93_2  {I : WI} {L : WL} {a1 : Int32} {a2 : Int32} {P : (WI ⊕ (Int32 × WI)) → Prop} {t : Tg} (he : ∀ x : WI, P (.inl x) → V (zM x_X6_judgeWhole 4 0 0 t) 99 [(0, .ref 11), (1, .int a1)] [] ly0 x L R0 0 0) (hk : ∀ x : (Int32 × WI), P (.inr x) → V (zM x_X6_judgeWhole 4 0 0 t) 46 [(0, .ref 11), (1, .int a1), (2, .int (p1 x))] [] ly0 (p2 x) L R0 0 0) : oP P (F_X6_judgeWhole_93_2 I a1 a2) → V (zM x_X6_judgeWhole 4 0 0 t) 93 [(0, .ref 11), (1, .int a1), (2, .int a2)] [] ly0 I L R0 0 0 :=
  fun _ =>
  have kq : (oP P (F_X6_judgeWhole_93_2 I a1 a2)) ∧ True := ⟨by assumption, trivial⟩
  V_iinc (v := (a2 + 1)) (lv' := [(2, .int (a2 + 1)), (0, .ref 11), (1, .int a1)]) (tat ok_X6_judgeWhole_1 (i := 7) (q := 96) rfl rfl) 2 rfl (ia ic_1) (Nat.le_of_ble_eq_true rfl) rfl <|
    V_goto (tat ok_X6_judgeWhole_1 (i := 8) (q := 99) rfl rfl) rfl <|
    V_pick [1, 2, 0] rfl (hk ((a2 + 1), I) (jq (P := oP P) kq rfl))
def F_X6_judgeWhole_46_2 (I : WI) (a1 : Int32) (a2 : Int32) : Option (WI ⊕ (Int32 × WI)) :=
  (if (F_X1_actsOf I 14 a1) ≤ a2 then some (.inl I) else (if (F_X0_hasLine I 12 (F_X1_kindOf I 14 a1 a2) (F_X1_numberOf I 14 a1 a2)) = 0 then (F_X6_judgeWhole_93_2 (p2 (F_X6_refuse I 7)) a1 a2) else (F_X6_judgeWhole_93_2 I a1 a2)))
theorem V_X6_judgeWhole_46_2  {I : WI} {L : WL} {a1 : Int32} {a2 : Int32} {P : (WI ⊕ (Int32 × WI)) → Prop} {t : Tg} (he : ∀ x : WI, P (.inl x) → V (zM x_X6_judgeWhole 4 0 0 t) 99 [(0, .ref 11), (1, .int a1)] [] ly0 x L R0 0 0) (hk : ∀ x : (Int32 × WI), P (.inr x) → V (zM x_X6_judgeWhole 4 0 0 t) 46 [(0, .ref 11), (1, .int a1), (2, .int (p1 x))] [] ly0 (p2 x) L R0 0 0) : oP P (F_X6_judgeWhole_46_2 I a1 a2) → V (zM x_X6_judgeWhole 4 0 0 t) 46 [(0, .ref 11), (1, .int a1), (2, .int a2)] [] ly0 I L R0 0 0 :=
  fun _ =>
  have kq : (oP P (F_X6_judgeWhole_46_2 I a1 a2)) ∧ True := ⟨by assumption, trivial⟩
  V_iload_n (tat ok_X6_judgeWhole_0 (i := 23) (q := 47) rfl rfl) 2 rfl rfl <|
    V_aload_n (tat ok_X6_judgeWhole_0 (i := 24) (q := 48) rfl rfl) 0 rfl rfl <|
    V_getR (tat ok_X6_judgeWhole_0 (i := 25) (q := 51) rfl rfl) fk_X6_26 rfl rfl <|
    V_iload_n (tat ok_X6_judgeWhole_0 (i := 26) (q := 52) rfl rfl) 1 rfl rfl <|
    V_cv1 (ct_X1_actsOf I L 14 a1 (⟨rfl, rfl, rfl, rfl, rfl⟩)) mo_X1_actsOf (tat ok_X6_judgeWhole_0 (i := 27) (q := 55) rfl rfl) ml_X6_136 rfl ⟨by decide, _, rfl, rfl⟩ ⟨(Nat.le_of_ble_eq_true rfl), (Nat.le_of_ble_eq_true rfl)⟩ ⟨(Nat.le_of_ble_eq_true rfl), (Nat.le_of_ble_eq_true rfl)⟩ (Nat.le_of_ble_eq_true rfl) <|
    V_icmp_ge (tat ok_X6_judgeWhole_0 (i := 28) (q := 58) rfl rfl) rfl (fun c3 => V_pick [0, 1] rfl (he I (jq (P := oP P) kq (if_pos c3)))) (fun c3 => V_aload_n (tat ok_X6_judgeWhole_0 (i := 29) (q := 59) rfl rfl) 0 rfl rfl <|
    V_getR (tat ok_X6_judgeWhole_0 (i := 30) (q := 62) rfl rfl) fk_X6_14 rfl rfl <|
    V_aload_n (tat ok_X6_judgeWhole_0 (i := 31) (q := 63) rfl rfl) 0 rfl rfl <|
    V_getR (tat ok_X6_judgeWhole_0 (i := 32) (q := 66) rfl rfl) fk_X6_26 rfl rfl <|
    V_iload_n (tat ok_X6_judgeWhole_0 (i := 33) (q := 67) rfl rfl) 1 rfl rfl <|
    V_iload_n (tat ok_X6_judgeWhole_0 (i := 34) (q := 68) rfl rfl) 2 rfl rfl <|
    V_cv2 (ct_X1_kindOf I L 14 a1 a2 (⟨rfl, rfl, rfl, rfl, rfl⟩)) mo_X1_kindOf (tat ok_X6_judgeWhole_0 (i := 35) (q := 71) rfl rfl) ml_X6_139 rfl ⟨by decide, _, rfl, rfl⟩ ⟨(Nat.le_of_ble_eq_true rfl), (Nat.le_of_ble_eq_true rfl)⟩ ⟨(Nat.le_of_ble_eq_true rfl), (Nat.le_of_ble_eq_true rfl)⟩ (Nat.le_of_ble_eq_true rfl) <|
    V_aload_n (tat ok_X6_judgeWhole_0 (i := 36) (q := 72) rfl rfl) 0 rfl rfl <|
    V_getR (tat ok_X6_judgeWhole_0 (i := 37) (q := 75) rfl rfl) fk_X6_26 rfl rfl <|
    V_iload_n (tat ok_X6_judgeWhole_0 (i := 38) (q := 76) rfl rfl) 1 rfl rfl <|
    V_iload_n (tat ok_X6_judgeWhole_0 (i := 39) (q := 77) rfl rfl) 2 rfl rfl <|
    V_cv2 (ct_X1_numberOf I L 14 a1 a2 (⟨rfl, rfl, rfl, rfl, rfl⟩)) mo_X1_numberOf (tat ok_X6_judgeWhole_1 (i := 0) (q := 80) rfl rfl) ml_X6_143 rfl ⟨by decide, _, rfl, rfl⟩ ⟨(Nat.le_of_ble_eq_true rfl), (Nat.le_of_ble_eq_true rfl)⟩ ⟨(Nat.le_of_ble_eq_true rfl), (Nat.le_of_ble_eq_true rfl)⟩ (Nat.le_of_ble_eq_true rfl) <|
    V_cv2 (ct_X0_hasLine I L 12 (F_X1_kindOf I 14 a1 a2) (F_X1_numberOf I 14 a1 a2) rfl) mo_X0_hasLine (tat ok_X6_judgeWhole_1 (i := 1) (q := 83) rfl rfl) ml_X6_146 rfl ⟨by decide, _, rfl, rfl⟩ ⟨(Nat.le_of_ble_eq_true rfl), (Nat.le_of_ble_eq_true rfl)⟩ ⟨(Nat.le_of_ble_eq_true rfl), (Nat.le_of_ble_eq_true rfl)⟩ (Nat.le_of_ble_eq_true rfl) <|
    V_if_ne (tat ok_X6_judgeWhole_1 (i := 2) (q := 86) rfl rfl) rfl (fun c4 => V_X6_judgeWhole_93_2  he hk (jq (P := oP P) kq (Eq.trans (if_neg c3) (if_neg c4)))) (fun c4 => V_aload_n (tat ok_X6_judgeWhole_1 (i := 3) (q := 87) rfl rfl) 0 rfl rfl <|
    V_bipush (tat ok_X6_judgeWhole_1 (i := 4) (q := 89) rfl rfl) bp_7 <|
    V_cv1 (ct_X6_refuse I L 7 ) mo_X6_refuse (tat ok_X6_judgeWhole_1 (i := 5) (q := 92) rfl rfl) ml_X6_85 rfl ⟨by decide, _, rfl, rfl⟩ ⟨(Nat.le_of_ble_eq_true rfl), (Nat.le_of_ble_eq_true rfl)⟩ ⟨(Nat.le_of_ble_eq_true rfl), (Nat.le_of_ble_eq_true rfl)⟩ (Nat.le_of_ble_eq_true rfl) <|
    V_pop (tat ok_X6_judgeWhole_1 (i := 6) (q := 93) rfl rfl) rfl <|
    V_X6_judgeWhole_93_2  he hk (jq (P := oP P) kq (Eq.trans (if_neg c3) (if_pos c4)))))
def F_X6_judgeWhole_99_1 (I : WI)  (a1 : Int32) : Option (WI ⊕ (Int32 × WI)) :=
  some (.inr ((a1 + 1), I))
theorem V_X6_judgeWhole_99_1  {I : WI} {L : WL}  {a1 : Int32} {P : (WI ⊕ (Int32 × WI)) → Prop} {t : Tg} (he : ∀ x : WI, P (.inl x) → V (zM x_X6_judgeWhole 4 0 0 t) 105 [(0, .ref 11)] [] ly0 x L R0 0 0) (hk : ∀ x : (Int32 × WI), P (.inr x) → V (zM x_X6_judgeWhole 4 0 0 t) 33 [(0, .ref 11), (1, .int (p1 x))] [] ly0 (p2 x) L R0 0 0) : oP P (F_X6_judgeWhole_99_1 I a1) → V (zM x_X6_judgeWhole 4 0 0 t) 99 [(0, .ref 11), (1, .int a1)] [] ly0 I L R0 0 0 :=
  fun _ =>
  have kq : (oP P (F_X6_judgeWhole_99_1 I a1)) ∧ True := ⟨by assumption, trivial⟩
  V_iinc (v := (a1 + 1)) (lv' := [(1, .int (a1 + 1)), (0, .ref 11)]) (tat ok_X6_judgeWhole_1 (i := 9) (q := 102) rfl rfl) 1 rfl (ia ic_1) (Nat.le_of_ble_eq_true rfl) rfl <|
    V_goto (tat ok_X6_judgeWhole_1 (i := 10) (q := 105) rfl rfl) rfl <|
    V_pick [1, 0] rfl (hk ((a1 + 1), I) (jq (P := oP P) kq rfl))
def F_X6_judgeWhole_46_1 (I : WI)  (a1 : Int32) (a2 : Int32) : Option (WI ⊕ (Int32 × WI)) :=
  (lpp (fun x => (F_X6_judgeWhole_46_2 (p2 x) a1 (p1 x))) 4294967296 (a2, I)).bind (fun q => (F_X6_judgeWhole_99_1 q a1))
theorem V_X6_judgeWhole_46_1  {I : WI} {L : WL}  {a1 : Int32} {a2 : Int32} {P : (WI ⊕ (Int32 × WI)) → Prop} {t : Tg} (hb2 : bz a2 = a2) (he : ∀ x : WI, P (.inl x) → V (zM x_X6_judgeWhole 4 0 0 t) 105 [(0, .ref 11)] [] ly0 x L R0 0 0) (hk : ∀ x : (Int32 × WI), P (.inr x) → V (zM x_X6_judgeWhole 4 0 0 t) 33 [(0, .ref 11), (1, .int (p1 x))] [] ly0 (p2 x) L R0 0 0) (kk : oP P (F_X6_judgeWhole_46_1 I a1 a2)) : V (zM x_X6_judgeWhole 4 0 0 t) 46 [(0, .ref 11), (1, .int a1), (2, .int a2)] [] ly0 I L R0 0 0 :=
  V_lpp (fun x => (F_X6_judgeWhole_46_2 (p2 x) a1 (p1 x))) (fun x => V (zM x_X6_judgeWhole 4 0 0 t) 46 [(0, .ref 11), (1, .int a1), (2, .int (p1 x))] [] ly0 (p2 x) L R0 0 0) (fun x => oP P ((F_X6_judgeWhole_99_1 x a1))) (s := (a2, I)) (fun x e0 => V_X6_judgeWhole_46_2 (P := Sum.elim (fun x => oP P ((F_X6_judgeWhole_99_1 x a1))) (fun x => V (zM x_X6_judgeWhole 4 0 0 t) 46 [(0, .ref 11), (1, .int a1), (2, .int (p1 x))] [] ly0 (p2 x) L R0 0 0))  (fun x e => V_X6_judgeWhole_99_1  he hk e) (fun _ e => e) e0) (oP_bind (f := fun q => _) kk)
def F_X6_judgeWhole_33_1 (I : WI)  (a1 : Int32) : Option (WI ⊕ (Int32 × WI)) :=
  (if (I 14 0) ≤ a1 then some (.inl I) else (F_X6_judgeWhole_46_1 I a1 0))
theorem V_X6_judgeWhole_33_1  {I : WI} {L : WL}  {a1 : Int32} {P : (WI ⊕ (Int32 × WI)) → Prop} {t : Tg} (he : ∀ x : WI, P (.inl x) → V (zM x_X6_judgeWhole 4 0 0 t) 105 [(0, .ref 11)] [] ly0 x L R0 0 0) (hk : ∀ x : (Int32 × WI), P (.inr x) → V (zM x_X6_judgeWhole 4 0 0 t) 33 [(0, .ref 11), (1, .int (p1 x))] [] ly0 (p2 x) L R0 0 0) : oP P (F_X6_judgeWhole_33_1 I a1) → V (zM x_X6_judgeWhole 4 0 0 t) 33 [(0, .ref 11), (1, .int a1)] [] ly0 I L R0 0 0 :=
  fun _ =>
  have kq : (oP P (F_X6_judgeWhole_33_1 I a1)) ∧ True := ⟨by assumption, trivial⟩
  V_iload_n (tat ok_X6_judgeWhole_0 (i := 16) (q := 34) rfl rfl) 1 rfl rfl <|
    V_aload_n (tat ok_X6_judgeWhole_0 (i := 17) (q := 35) rfl rfl) 0 rfl rfl <|
    V_getR (tat ok_X6_judgeWhole_0 (i := 18) (q := 38) rfl rfl) fk_X6_26 rfl rfl <|
    V_getI (tat ok_X6_judgeWhole_0 (i := 19) (q := 41) rfl rfl) fk_X6_113 rfl <|
    V_icmp_ge (tat ok_X6_judgeWhole_0 (i := 20) (q := 44) rfl rfl) rfl (fun c2 => V_pick [0] rfl (he I (jq (P := oP P) kq (if_pos c2)))) (fun c2 => V_iconst (tat ok_X6_judgeWhole_0 (i := 21) (q := 45) rfl rfl) ic_0 <|
    V_istore_n (lv' := [(2, .int 0), (0, .ref 11), (1, .int a1)]) (tat ok_X6_judgeWhole_0 (i := 22) (q := 46) rfl rfl) rfl (Nat.le_of_ble_eq_true rfl) rfl <|
    V_pick [1, 2, 0] rfl (V_X6_judgeWhole_46_1 rfl he hk (jq (P := oP P) kq (if_neg c2))))
def F_X6_judgeWhole_105 (I : WI) : Option WI :=
  some I
theorem V_X6_judgeWhole_105  {I : WI} {L : WL}   {P : WI → Prop} {t : Tg} (hr : ∀ v, P v → t = (none, ly0, v, L, R0)) : oP P (F_X6_judgeWhole_105 I) → V (zM x_X6_judgeWhole 4 0 0 t) 105 [(0, .ref 11)] [] ly0 I L R0 0 0 :=
  fun _ =>
  have kq : (oP P (F_X6_judgeWhole_105 I)) ∧ True := ⟨by assumption, trivial⟩
  V_vret (tat ok_X6_judgeWhole_1 (i := 11) (q := 106) rfl rfl) rfl (hr I (jq (P := oP P) kq rfl)) ⟨(Nat.le_of_ble_eq_true rfl), (Nat.le_of_ble_eq_true rfl)⟩
def F_X6_judgeWhole_33 (I : WI)  (a1 : Int32) : Option WI :=
  (lpp (fun x => (F_X6_judgeWhole_33_1 (p2 x) (p1 x))) 4294967296 (a1, I)).bind (fun q => (F_X6_judgeWhole_105 q))
theorem V_X6_judgeWhole_33  {I : WI} {L : WL}  {a1 : Int32} {P : WI → Prop} {t : Tg} (hb1 : bz a1 = a1) (hr : ∀ v, P v → t = (none, ly0, v, L, R0)) (kk : oP P (F_X6_judgeWhole_33 I a1)) : V (zM x_X6_judgeWhole 4 0 0 t) 33 [(0, .ref 11), (1, .int a1)] [] ly0 I L R0 0 0 :=
  V_lpp (fun x => (F_X6_judgeWhole_33_1 (p2 x) (p1 x))) (fun x => V (zM x_X6_judgeWhole 4 0 0 t) 33 [(0, .ref 11), (1, .int (p1 x))] [] ly0 (p2 x) L R0 0 0) (fun x => oP P ((F_X6_judgeWhole_105 x))) (s := (a1, I)) (fun x e0 => V_X6_judgeWhole_33_1 (P := Sum.elim (fun x => oP P ((F_X6_judgeWhole_105 x))) (fun x => V (zM x_X6_judgeWhole 4 0 0 t) 33 [(0, .ref 11), (1, .int (p1 x))] [] ly0 (p2 x) L R0 0 0))  (fun x e => V_X6_judgeWhole_105  hr e) (fun _ e => e) e0) (oP_bind (f := fun q => _) kk)
def F_X6_judgeWhole_31 (I : WI) : Option WI :=
  (F_X6_judgeWhole_33 I 0)
theorem V_X6_judgeWhole_31  {I : WI} {L : WL}   {P : WI → Prop} {t : Tg} (hr : ∀ v, P v → t = (none, ly0, v, L, R0)) : oP P (F_X6_judgeWhole_31 I) → V (zM x_X6_judgeWhole 4 0 0 t) 31 [(0, .ref 11)] [] ly0 I L R0 0 0 :=
  fun _ =>
  have kq : (oP P (F_X6_judgeWhole_31 I)) ∧ True := ⟨by assumption, trivial⟩
  V_iconst (tat ok_X6_judgeWhole_0 (i := 14) (q := 32) rfl rfl) ic_0 <|
    V_istore_n (lv' := [(1, .int 0), (0, .ref 11)]) (tat ok_X6_judgeWhole_0 (i := 15) (q := 33) rfl rfl) rfl (Nat.le_of_ble_eq_true rfl) rfl <|
    V_pick [1, 0] rfl (V_X6_judgeWhole_33 rfl hr (jq (P := oP P) kq rfl))
def F_X6_judgeWhole (I : WI) : Option WI :=
  (if (bz (I 13 0)) = 0 then (F_X6_judgeWhole_31 I) else (if (F_X0_sameSize I 13 12) = 0 then (F_X6_judgeWhole_31 (p2 (F_X6_refuse I 6))) else (F_X6_judgeWhole_31 I)))
theorem V_X6_judgeWhole  {I : WI} {L : WL}   {P : WI → Prop} {t : Tg} (hr : ∀ v, P v → t = (none, ly0, v, L, R0)) : oP P (F_X6_judgeWhole I) → V (zM x_X6_judgeWhole 4 0 0 t) 0 [(0, .ref 11)] [] ly0 I L R0 0 0 :=
  fun _ =>
  have kq : (oP P (F_X6_judgeWhole I)) ∧ True := ⟨by assumption, trivial⟩
  V_aload_n (tat ok_X6_judgeWhole_0 (i := 0) (q := 1) rfl rfl) 0 rfl rfl <|
    V_getR (tat ok_X6_judgeWhole_0 (i := 1) (q := 4) rfl rfl) fk_X6_20 rfl rfl <|
    V_getZ (tat ok_X6_judgeWhole_0 (i := 2) (q := 7) rfl rfl) fk_X6_89 rfl <|
    V_if_eq (tat ok_X6_judgeWhole_0 (i := 3) (q := 10) rfl rfl) rfl (fun c1 => V_X6_judgeWhole_31  hr (jq (P := oP P) kq (if_pos c1))) (fun c1 => V_aload_n (tat ok_X6_judgeWhole_0 (i := 4) (q := 11) rfl rfl) 0 rfl rfl <|
    V_getR (tat ok_X6_judgeWhole_0 (i := 5) (q := 14) rfl rfl) fk_X6_20 rfl rfl <|
    V_aload_n (tat ok_X6_judgeWhole_0 (i := 6) (q := 15) rfl rfl) 0 rfl rfl <|
    V_getR (tat ok_X6_judgeWhole_0 (i := 7) (q := 18) rfl rfl) fk_X6_14 rfl rfl <|
    V_cv1 (ct_X0_sameSize I L 13 12 rfl rfl) mo_X0_sameSize (tat ok_X6_judgeWhole_0 (i := 8) (q := 21) rfl rfl) ml_X6_133 rfl ⟨by decide, _, rfl, rfl⟩ ⟨(Nat.le_of_ble_eq_true rfl), (Nat.le_of_ble_eq_true rfl)⟩ ⟨(Nat.le_of_ble_eq_true rfl), (Nat.le_of_ble_eq_true rfl)⟩ (Nat.le_of_ble_eq_true rfl) <|
    V_if_ne (tat ok_X6_judgeWhole_0 (i := 9) (q := 24) rfl rfl) rfl (fun c5 => V_X6_judgeWhole_31  hr (jq (P := oP P) kq (Eq.trans (if_neg c1) (if_neg c5)))) (fun c5 => V_aload_n (tat ok_X6_judgeWhole_0 (i := 10) (q := 25) rfl rfl) 0 rfl rfl <|
    V_bipush (tat ok_X6_judgeWhole_0 (i := 11) (q := 27) rfl rfl) bp_6 <|
    V_cv1 (ct_X6_refuse I L 6 ) mo_X6_refuse (tat ok_X6_judgeWhole_0 (i := 12) (q := 30) rfl rfl) ml_X6_85 rfl ⟨by decide, _, rfl, rfl⟩ ⟨(Nat.le_of_ble_eq_true rfl), (Nat.le_of_ble_eq_true rfl)⟩ ⟨(Nat.le_of_ble_eq_true rfl), (Nat.le_of_ble_eq_true rfl)⟩ (Nat.le_of_ble_eq_true rfl) <|
    V_pop (tat ok_X6_judgeWhole_0 (i := 13) (q := 31) rfl rfl) rfl <|
    V_X6_judgeWhole_31  hr (jq (P := oP P) kq (Eq.trans (if_neg c1) (if_pos c5)))))
theorem ct_X6_judgeWhole  (I : WI) (L : WL)  {v : WI} (h : (F_X6_judgeWhole I) = some v) : Ct x_X6_judgeWhole 4 [.ref 11] ly0 I L R0 0 0 (none, ly0, v, L, R0) :=
  Ct_of_V mo_X6_judgeWhole.1 (Nat.le_of_ble_eq_true rfl) (V_X6_judgeWhole (P := fun x => x = v)  (fun _ e => by rw [e]) (by rw [h]; exact rfl))
def F_X6_takeText_38_1 (I : WI) (L : WL)  (a1 : Int32) : Option ((Int32 × WI × WL) ⊕ (Int32 × WI × WL)) :=
  (if 320 ≤ a1 then some (.inl (a1, I, L)) else (Option.bind (F_X6_takeLine I L) (fun v2 => (if (p1 v2) = 0 then some (.inl (a1, (p1 (p2 v2)), (p2 (p2 v2)))) else some (.inr ((a1 + 1), (p1 (p2 v2)), (p2 (p2 v2))))))))
theorem V_X6_takeText_38_1  {I : WI} {L : WL}  {a1 : Int32} {P : ((Int32 × WI × WL) ⊕ (Int32 × WI × WL)) → Prop} {t : Tg} (he : ∀ x : (Int32 × WI × WL), P (.inl x) → V (zM x_X6_takeText 9 0 0 t) 58 [(0, .ref 11), (1, .int (p1 x))] [] ly0 (p1 (p2 x)) (p2 (p2 x)) R0 0 0) (hk : ∀ x : (Int32 × WI × WL), P (.inr x) → V (zM x_X6_takeText 9 0 0 t) 38 [(0, .ref 11), (1, .int (p1 x))] [] ly0 (p1 (p2 x)) (p2 (p2 x)) R0 0 0) : oP P (F_X6_takeText_38_1 I L a1) → V (zM x_X6_takeText 9 0 0 t) 38 [(0, .ref 11), (1, .int a1)] [] ly0 I L R0 0 0 :=
  fun _ =>
  have kq : (oP P (F_X6_takeText_38_1 I L a1)) ∧ True := ⟨by assumption, trivial⟩
  V_iload_n (tat ok_X6_takeText_0 (i := 20) (q := 39) rfl rfl) 1 rfl rfl <|
    V_sipush (tat ok_X6_takeText_0 (i := 21) (q := 42) rfl rfl) sp_320 <|
    V_icmp_ge (tat ok_X6_takeText_0 (i := 22) (q := 45) rfl rfl) rfl (fun c1 => he (a1, I, L) (jq (P := oP P) kq (if_pos c1))) (fun c1 => V_aload_n (tat ok_X6_takeText_0 (i := 23) (q := 46) rfl rfl) 0 rfl rfl <|
    oP_case (jq (P := oP P) kq (if_neg c1)) (fun v2 e2 _ => V_cv0 (ct_X6_takeLine I L   e2) mo_X6_takeLine (tat ok_X6_takeText_0 (i := 24) (q := 49) rfl rfl) ml_X6_52 rfl ⟨by decide, _, rfl, rfl⟩ ⟨(Nat.le_of_ble_eq_true rfl), (Nat.le_of_ble_eq_true rfl)⟩ ⟨(Nat.le_of_ble_eq_true rfl), (Nat.le_of_ble_eq_true rfl)⟩ (Nat.le_of_ble_eq_true rfl) <|
    V_if_eq (tat ok_X6_takeText_0 (i := 25) (q := 52) rfl rfl) rfl (fun c3 => he (a1, (p1 (p2 v2)), (p2 (p2 v2))) (jq (P := oP P) kq (Eq.trans (if_neg c1) (Eq.trans (ob e2) (if_pos c3))))) (fun c3 => V_iinc (v := (a1 + 1)) (lv' := [(1, .int (a1 + 1)), (0, .ref 11)]) (tat ok_X6_takeText_0 (i := 26) (q := 55) rfl rfl) 1 rfl (ia ic_1) (Nat.le_of_ble_eq_true rfl) rfl <|
    V_goto (tat ok_X6_takeText_0 (i := 27) (q := 58) rfl rfl) rfl <|
    V_pick [1, 0] rfl (hk ((a1 + 1), (p1 (p2 v2)), (p2 (p2 v2))) (jq (P := oP P) kq (Eq.trans (if_neg c1) (Eq.trans (ob e2) (if_neg c3))))))))
def F_X6_takeText_87 (I : WI) (L : WL)  (s0 : Int32) : Option (Int32 × WI × WL) :=
  some (s0, I, L)
theorem V_X6_takeText_87  {I : WI} {L : WL}  {s0 : Int32} {P : (Int32 × WI × WL) → Prop} {t : Tg} (hr : ∀ v, P v → t = (some (.int (p1 v)), ly0, (p1 (p2 v)), (p2 (p2 v)), R0)) : oP P (F_X6_takeText_87 I L s0) → V (zM x_X6_takeText 9 0 0 t) 87 [(0, .ref 11)] [.int s0] ly0 I L R0 0 0 :=
  fun _ =>
  have kq : (oP P (F_X6_takeText_87 I L s0)) ∧ True := ⟨by assumption, trivial⟩
  V_iret (tat ok_X6_takeText_1 (i := 2) (q := 88) rfl rfl) _ rfl (nar_int _) (hr (s0, I, L) (jq (P := oP P) kq rfl)) ⟨(Nat.le_of_ble_eq_true rfl), (Nat.le_of_ble_eq_true rfl)⟩
def F_X6_takeText_69 (I : WI) (L : WL)  (a1 : Int32) : Option (Int32 × WI × WL) :=
  (if (I 11 3) = 0 then (F_X6_takeText_87 I L a1) else (F_X6_takeText_87 I L ((-10) - (I 11 5))))
theorem V_X6_takeText_69  {I : WI} {L : WL}  {a1 : Int32} {P : (Int32 × WI × WL) → Prop} {t : Tg} (hr : ∀ v, P v → t = (some (.int (p1 v)), ly0, (p1 (p2 v)), (p2 (p2 v)), R0)) : oP P (F_X6_takeText_69 I L a1) → V (zM x_X6_takeText 9 0 0 t) 69 [(0, .ref 11), (1, .int a1)] [] ly0 I L R0 0 0 :=
  fun _ =>
  have kq : (oP P (F_X6_takeText_69 I L a1)) ∧ True := ⟨by assumption, trivial⟩
  V_aload_n (tat ok_X6_takeText_0 (i := 33) (q := 70) rfl rfl) 0 rfl rfl <|
    V_getI (tat ok_X6_takeText_0 (i := 34) (q := 73) rfl rfl) fk_X6_40 rfl <|
    V_if_ne (tat ok_X6_takeText_0 (i := 35) (q := 76) rfl rfl) rfl (fun c6 => V_bipush (tat ok_X6_takeText_0 (i := 38) (q := 82) rfl rfl) bp_m10 <|
    V_aload_n (tat ok_X6_takeText_0 (i := 39) (q := 83) rfl rfl) 0 rfl rfl <|
    V_getI (tat ok_X6_takeText_1 (i := 0) (q := 86) rfl rfl) fk_X6_44 rfl <|
    V_isub (tat ok_X6_takeText_1 (i := 1) (q := 87) rfl rfl) <|
    V_pick [0] rfl (V_X6_takeText_87  hr (jq (P := oP P) kq (if_neg c6)))) (fun c6 => V_iload_n (tat ok_X6_takeText_0 (i := 36) (q := 77) rfl rfl) 1 rfl rfl <|
    V_goto (tat ok_X6_takeText_0 (i := 37) (q := 80) rfl rfl) rfl <|
    V_pick [0] rfl (V_X6_takeText_87  hr (jq (P := oP P) kq (if_pos c6))))
def F_X6_takeText_58 (I : WI) (L : WL)  (a1 : Int32) : Option (Int32 × WI × WL) :=
  (if (I 11 3) = 0 then (Option.bind (F_X6_judgeWhole I) (fun v5 => (F_X6_takeText_69 v5 L a1))) else (F_X6_takeText_69 I L a1))
theorem V_X6_takeText_58  {I : WI} {L : WL}  {a1 : Int32} {P : (Int32 × WI × WL) → Prop} {t : Tg} (hr : ∀ v, P v → t = (some (.int (p1 v)), ly0, (p1 (p2 v)), (p2 (p2 v)), R0)) : oP P (F_X6_takeText_58 I L a1) → V (zM x_X6_takeText 9 0 0 t) 58 [(0, .ref 11), (1, .int a1)] [] ly0 I L R0 0 0 :=
  fun _ =>
  have kq : (oP P (F_X6_takeText_58 I L a1)) ∧ True := ⟨by assumption, trivial⟩
  V_aload_n (tat ok_X6_takeText_0 (i := 28) (q := 59) rfl rfl) 0 rfl rfl <|
    V_getI (tat ok_X6_takeText_0 (i := 29) (q := 62) rfl rfl) fk_X6_40 rfl <|
    V_if_ne (tat ok_X6_takeText_0 (i := 30) (q := 65) rfl rfl) rfl (fun c4 => V_X6_takeText_69  hr (jq (P := oP P) kq (if_neg c4))) (fun c4 => V_aload_n (tat ok_X6_takeText_0 (i := 31) (q := 66) rfl rfl) 0 rfl rfl <|
    oP_case (jq (P := oP P) kq (if_pos c4)) (fun v5 e5 _ => V_cv0v (ct_X6_judgeWhole I L   e5) mo_X6_judgeWhole (tat ok_X6_takeText_0 (i := 32) (q := 69) rfl rfl) ml_X6_56 rfl ⟨by decide, _, rfl, rfl⟩ ⟨(Nat.le_of_ble_eq_true rfl), (Nat.le_of_ble_eq_true rfl)⟩ ⟨(Nat.le_of_ble_eq_true rfl), (Nat.le_of_ble_eq_true rfl)⟩ (Nat.le_of_ble_eq_true rfl) <|
    V_X6_takeText_69  hr (jq (P := oP P) kq (Eq.trans (if_pos c4) (ob e5)))))
def F_X6_takeText_38 (I : WI) (L : WL)  (a1 : Int32) : Option (Int32 × WI × WL) :=
  (lpp (fun x => (F_X6_takeText_38_1 (p1 (p2 x)) (p2 (p2 x)) (p1 x))) 4294967296 (a1, I, L)).bind (fun q => (F_X6_takeText_58 (p1 (p2 q)) (p2 (p2 q)) (p1 q)))
theorem V_X6_takeText_38  {I : WI} {L : WL}  {a1 : Int32} {P : (Int32 × WI × WL) → Prop} {t : Tg} (hb1 : bz a1 = a1) (hr : ∀ v, P v → t = (some (.int (p1 v)), ly0, (p1 (p2 v)), (p2 (p2 v)), R0)) (kk : oP P (F_X6_takeText_38 I L a1)) : V (zM x_X6_takeText 9 0 0 t) 38 [(0, .ref 11), (1, .int a1)] [] ly0 I L R0 0 0 :=
  V_lpp (fun x => (F_X6_takeText_38_1 (p1 (p2 x)) (p2 (p2 x)) (p1 x))) (fun x => V (zM x_X6_takeText 9 0 0 t) 38 [(0, .ref 11), (1, .int (p1 x))] [] ly0 (p1 (p2 x)) (p2 (p2 x)) R0 0 0) (fun x => oP P ((F_X6_takeText_58 (p1 (p2 x)) (p2 (p2 x)) (p1 x)))) (s := (a1, I, L)) (fun x e0 => V_X6_takeText_38_1 (P := Sum.elim (fun x => oP P ((F_X6_takeText_58 (p1 (p2 x)) (p2 (p2 x)) (p1 x)))) (fun x => V (zM x_X6_takeText 9 0 0 t) 38 [(0, .ref 11), (1, .int (p1 x))] [] ly0 (p1 (p2 x)) (p2 (p2 x)) R0 0 0))  (fun x e => V_X6_takeText_58  hr e) (fun _ e => e) e0) (oP_bind (f := fun q => _) kk)
def F_X6_takeText (I : WI) (L : WL) : Option (Int32 × WI × WL) :=
  (F_X6_takeText_38 (u2 (u2 (u2 (F_X1_clear (p1 (F_X0_forget (p1 (F_X0_forget I L 12)) (p2 (F_X0_forget I L 12)) 13)) 14) 11 3 0) 11 5 0) 11 8 0) (p2 (F_X0_forget (p1 (F_X0_forget I L 12)) (p2 (F_X0_forget I L 12)) 13)) 0)
theorem V_X6_takeText  {I : WI} {L : WL}   {P : (Int32 × WI × WL) → Prop} {t : Tg} (hr : ∀ v, P v → t = (some (.int (p1 v)), ly0, (p1 (p2 v)), (p2 (p2 v)), R0)) : oP P (F_X6_takeText I L) → V (zM x_X6_takeText 9 0 0 t) 0 [(0, .ref 11)] [] ly0 I L R0 0 0 :=
  fun _ =>
  have kq : (oP P (F_X6_takeText I L)) ∧ True := ⟨by assumption, trivial⟩
  V_aload_n (tat ok_X6_takeText_0 (i := 0) (q := 1) rfl rfl) 0 rfl rfl <|
    V_getR (tat ok_X6_takeText_0 (i := 1) (q := 4) rfl rfl) fk_X6_14 rfl rfl <|
    V_cv0v (ct_X0_forget I L 12 rfl) mo_X0_forget (tat ok_X6_takeText_0 (i := 2) (q := 7) rfl rfl) ml_X6_34 rfl ⟨by decide, _, rfl, rfl⟩ ⟨(Nat.le_of_ble_eq_true rfl), (Nat.le_of_ble_eq_true rfl)⟩ ⟨(Nat.le_of_ble_eq_true rfl), (Nat.le_of_ble_eq_true rfl)⟩ (Nat.le_of_ble_eq_true rfl) <|
    V_aload_n (tat ok_X6_takeText_0 (i := 3) (q := 8) rfl rfl) 0 rfl rfl <|
    V_getR (tat ok_X6_takeText_0 (i := 4) (q := 11) rfl rfl) fk_X6_20 rfl rfl <|
    V_cv0v (ct_X0_forget (p1 (F_X0_forget I L 12)) (p2 (F_X0_forget I L 12)) 13 rfl) mo_X0_forget (tat ok_X6_takeText_0 (i := 5) (q := 14) rfl rfl) ml_X6_34 rfl ⟨by decide, _, rfl, rfl⟩ ⟨(Nat.le_of_ble_eq_true rfl), (Nat.le_of_ble_eq_true rfl)⟩ ⟨(Nat.le_of_ble_eq_true rfl), (Nat.le_of_ble_eq_true rfl)⟩ (Nat.le_of_ble_eq_true rfl) <|
    V_aload_n (tat ok_X6_takeText_0 (i := 6) (q := 15) rfl rfl) 0 rfl rfl <|
    V_getR (tat ok_X6_takeText_0 (i := 7) (q := 18) rfl rfl) fk_X6_26 rfl rfl <|
    V_cv0v (ct_X1_clear (p1 (F_X0_forget (p1 (F_X0_forget I L 12)) (p2 (F_X0_forget I L 12)) 13)) (p2 (F_X0_forget (p1 (F_X0_forget I L 12)) (p2 (F_X0_forget I L 12)) 13)) 14 (⟨rfl, rfl, rfl, rfl, rfl⟩)) mo_X1_clear (tat ok_X6_takeText_0 (i := 8) (q := 21) rfl rfl) ml_X6_37 rfl ⟨by decide, _, rfl, rfl⟩ ⟨(Nat.le_of_ble_eq_true rfl), (Nat.le_of_ble_eq_true rfl)⟩ ⟨(Nat.le_of_ble_eq_true rfl), (Nat.le_of_ble_eq_true rfl)⟩ (Nat.le_of_ble_eq_true rfl) <|
    V_aload_n (tat ok_X6_takeText_0 (i := 9) (q := 22) rfl rfl) 0 rfl rfl <|
    V_iconst (tat ok_X6_takeText_0 (i := 10) (q := 23) rfl rfl) ic_0 <|
    V_putI (tat ok_X6_takeText_0 (i := 11) (q := 26) rfl rfl) fk_X6_40 rfl rfl <|
    V_aload_n (tat ok_X6_takeText_0 (i := 12) (q := 27) rfl rfl) 0 rfl rfl <|
    V_iconst (tat ok_X6_takeText_0 (i := 13) (q := 28) rfl rfl) ic_0 <|
    V_putI (tat ok_X6_takeText_0 (i := 14) (q := 31) rfl rfl) fk_X6_44 rfl rfl <|
    V_aload_n (tat ok_X6_takeText_0 (i := 15) (q := 32) rfl rfl) 0 rfl rfl <|
    V_iconst (tat ok_X6_takeText_0 (i := 16) (q := 33) rfl rfl) ic_0 <|
    V_putI (tat ok_X6_takeText_0 (i := 17) (q := 36) rfl rfl) fk_X6_47 rfl rfl <|
    V_iconst (tat ok_X6_takeText_0 (i := 18) (q := 37) rfl rfl) ic_0 <|
    V_istore_n (lv' := [(1, .int 0), (0, .ref 11)]) (tat ok_X6_takeText_0 (i := 19) (q := 38) rfl rfl) rfl (Nat.le_of_ble_eq_true rfl) rfl <|
    V_pick [1, 0] rfl (V_X6_takeText_38 rfl hr (jq (P := oP P) kq rfl))
theorem ct_X6_takeText  (I : WI) (L : WL)  {v : (Int32 × WI × WL)} (h : (F_X6_takeText I L) = some v) : Ct x_X6_takeText 9 [.ref 11] ly0 I L R0 0 0 (some (.int (p1 v)), ly0, (p1 (p2 v)), (p2 (p2 v)), R0) :=
  Ct_of_V mo_X6_takeText.1 (Nat.le_of_ble_eq_true rfl) (V_X6_takeText (P := fun x => x = v)  (fun _ e => by rw [e]) (by rw [h]; exact rfl))
