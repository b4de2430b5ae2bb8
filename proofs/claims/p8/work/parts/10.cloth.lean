def F_X0_forget (I : WI) (L : WL) (o : Nat) : (WI × WL) :=
  ((u2 (u2 (u2 I o 0 0) o 1 4) o 2 4), (u2 L o 3 0))
theorem V_X0_forget  {I : WI} {L : WL} {o : Nat}  {P : (WI × WL) → Prop} {t : Tg} (ho : isX0 o) (hr : ∀ v, P v → t = (none, ly0, (p1 v), (p2 v), R0)) (kk : P (F_X0_forget I L o)) : V (zM x_X0_forget 1 0 0 t) 0 [(0, .ref o)] [] ly0 I L R0 0 0 :=
  V_aload_n (tat ok_X0_forget_0 (i := 0) (q := 1) rfl rfl) 0 rfl rfl <|
    V_iconst (tat ok_X0_forget_0 (i := 1) (q := 2) rfl rfl) ic_0 <|
    V_putZ (tat ok_X0_forget_0 (i := 2) (q := 5) rfl rfl) fk_X0_18 ho rfl rfl <|
    V_aload_n (tat ok_X0_forget_0 (i := 3) (q := 6) rfl rfl) 0 rfl rfl <|
    V_iconst (tat ok_X0_forget_0 (i := 4) (q := 7) rfl rfl) ic_4 <|
    V_putI (tat ok_X0_forget_0 (i := 5) (q := 10) rfl rfl) fk_X0_11 ho rfl <|
    V_aload_n (tat ok_X0_forget_0 (i := 6) (q := 11) rfl rfl) 0 rfl rfl <|
    V_iconst (tat ok_X0_forget_0 (i := 7) (q := 12) rfl rfl) ic_4 <|
    V_putI (tat ok_X0_forget_0 (i := 8) (q := 15) rfl rfl) fk_X0_15 ho rfl <|
    V_aload_n (tat ok_X0_forget_0 (i := 9) (q := 16) rfl rfl) 0 rfl rfl <|
    V_lconst (v := 0) (tat ok_X0_forget_0 (i := 10) (q := 17) rfl rfl) rfl <|
    V_putL (tat ok_X0_forget_0 (i := 11) (q := 20) rfl rfl) fk_X0_22 ho rfl <|
    V_vret (tat ok_X0_forget_0 (i := 12) (q := 21) rfl rfl) rfl (hr ((u2 (u2 (u2 I o 0 0) o 1 4) o 2 4), (u2 L o 3 0)) (jx (P := P) kk rfl)) ⟨(Nat.le_of_ble_eq_true rfl), (Nat.le_of_ble_eq_true rfl)⟩
theorem ct_X0_forget  (I : WI) (L : WL) (o : Nat) (ho : isX0 o) : Ct x_X0_forget 1 [.ref o] ly0 I L R0 0 0 (none, ly0, (p1 (F_X0_forget I L o)), (p2 (F_X0_forget I L o)), R0) :=
  Ct_of_V mo_X0_forget.1 (Nat.le_of_ble_eq_true rfl) (V_X0_forget (P := fun x => x = (F_X0_forget I L o)) ho (fun _ e => by rw [e]) rfl)
def F_X0_become (I : WI) (L : WL) (o : Nat) (r1 : Nat) : (WI × WL) :=
  ((u2 (u2 (u2 I o 0 (bz (I r1 0))) o 1 ((u2 I o 0 (bz (I r1 0))) r1 1)) o 2 ((u2 (u2 I o 0 (bz (I r1 0))) o 1 ((u2 I o 0 (bz (I r1 0))) r1 1)) r1 2)), (u2 L o 3 (L r1 3)))
theorem V_X0_become  {I : WI} {L : WL} {o : Nat} {r1 : Nat}  {P : (WI × WL) → Prop} {t : Tg} (ho : isX0 o) (hr1 : isX0 r1) (hr : ∀ v, P v → t = (none, ly0, (p1 v), (p2 v), R0)) (kk : P (F_X0_become I L o r1)) : V (zM x_X0_become 1 0 0 t) 0 [(0, .ref o), (1, .ref r1)] [] ly0 I L R0 0 0 :=
  V_aload_n (tat ok_X0_become_0 (i := 0) (q := 1) rfl rfl) 0 rfl rfl <|
    V_aload_n (tat ok_X0_become_0 (i := 1) (q := 2) rfl rfl) 1 rfl rfl <|
    V_getZ (tat ok_X0_become_0 (i := 2) (q := 5) rfl rfl) fk_X0_18 hr1 <|
    V_putZ (tat ok_X0_become_0 (i := 3) (q := 8) rfl rfl) fk_X0_18 ho rfl (bz_bz _) <|
    V_aload_n (tat ok_X0_become_0 (i := 4) (q := 9) rfl rfl) 0 rfl rfl <|
    V_aload_n (tat ok_X0_become_0 (i := 5) (q := 10) rfl rfl) 1 rfl rfl <|
    V_getI (tat ok_X0_become_0 (i := 6) (q := 13) rfl rfl) fk_X0_11 hr1 <|
    V_putI (tat ok_X0_become_0 (i := 7) (q := 16) rfl rfl) fk_X0_11 ho rfl <|
    V_aload_n (tat ok_X0_become_0 (i := 8) (q := 17) rfl rfl) 0 rfl rfl <|
    V_aload_n (tat ok_X0_become_0 (i := 9) (q := 18) rfl rfl) 1 rfl rfl <|
    V_getI (tat ok_X0_become_0 (i := 10) (q := 21) rfl rfl) fk_X0_15 hr1 <|
    V_putI (tat ok_X0_become_0 (i := 11) (q := 24) rfl rfl) fk_X0_15 ho rfl <|
    V_aload_n (tat ok_X0_become_0 (i := 12) (q := 25) rfl rfl) 0 rfl rfl <|
    V_aload_n (tat ok_X0_become_0 (i := 13) (q := 26) rfl rfl) 1 rfl rfl <|
    V_getL (tat ok_X0_become_0 (i := 14) (q := 29) rfl rfl) fk_X0_22 hr1 <|
    V_putL (tat ok_X0_become_0 (i := 15) (q := 32) rfl rfl) fk_X0_22 ho rfl <|
    V_vret (tat ok_X0_become_0 (i := 16) (q := 33) rfl rfl) rfl (hr ((u2 (u2 (u2 I o 0 (bz (I r1 0))) o 1 ((u2 I o 0 (bz (I r1 0))) r1 1)) o 2 ((u2 (u2 I o 0 (bz (I r1 0))) o 1 ((u2 I o 0 (bz (I r1 0))) r1 1)) r1 2)), (u2 L o 3 (L r1 3))) (jx (P := P) kk rfl)) ⟨(Nat.le_of_ble_eq_true rfl), (Nat.le_of_ble_eq_true rfl)⟩
theorem ct_X0_become  (I : WI) (L : WL) (o : Nat) (r1 : Nat) (ho : isX0 o) (hr1 : isX0 r1) : Ct x_X0_become 1 [.ref o, .ref r1] ly0 I L R0 0 0 (none, ly0, (p1 (F_X0_become I L o r1)), (p2 (F_X0_become I L o r1)), R0) :=
  Ct_of_V mo_X0_become.1 (Nat.le_of_ble_eq_true rfl) (V_X0_become (P := fun x => x = (F_X0_become I L o r1)) ho hr1 (fun _ e => by rw [e]) rfl)
def F_X0_everyColumn (I : WI) (o : Nat) : Int32 :=
  ((1 <<< ((I o 2) &&& 31)) - 1)
theorem V_X0_everyColumn  {I : WI} {L : WL} {o : Nat}  {P : Int32 → Prop} {t : Tg} (ho : isX0 o) (hr : ∀ v, P v → t = (some (.int v), ly0, I, L, R0)) (kk : P (F_X0_everyColumn I o)) : V (zM x_X0_everyColumn 1 0 0 t) 0 [(0, .ref o)] [] ly0 I L R0 0 0 :=
  V_iconst (tat ok_X0_everyColumn_0 (i := 0) (q := 1) rfl rfl) ic_1 <|
    V_aload_n (tat ok_X0_everyColumn_0 (i := 1) (q := 2) rfl rfl) 0 rfl rfl <|
    V_getI (tat ok_X0_everyColumn_0 (i := 2) (q := 5) rfl rfl) fk_X0_15 ho <|
    V_ishl (tat ok_X0_everyColumn_0 (i := 3) (q := 6) rfl rfl) <|
    V_iconst (tat ok_X0_everyColumn_0 (i := 4) (q := 7) rfl rfl) ic_1 <|
    V_isub (tat ok_X0_everyColumn_0 (i := 5) (q := 8) rfl rfl) <|
    V_iret (tat ok_X0_everyColumn_0 (i := 6) (q := 9) rfl rfl) _ rfl (nar_int _) (hr ((1 <<< ((I o 2) &&& 31)) - 1) (jx (P := P) kk rfl)) ⟨(Nat.le_of_ble_eq_true rfl), (Nat.le_of_ble_eq_true rfl)⟩
theorem ct_X0_everyColumn  (I : WI) (L : WL) (o : Nat) (ho : isX0 o) : Ct x_X0_everyColumn 1 [.ref o] ly0 I L R0 0 0 (some (.int (F_X0_everyColumn I o)), ly0, I, L, R0) :=
  Ct_of_V mo_X0_everyColumn.1 (Nat.le_of_ble_eq_true rfl) (V_X0_everyColumn (P := fun x => x = (F_X0_everyColumn I o)) ho (fun _ e => by rw [e]) rfl)
def F_X0_columnSquares (I : WI) (o : Nat) (a1 : Int32) : Int64 :=
  (lsh (lush 72340172838076673 (64 - (8 * (I o 1)))) a1)
theorem V_X0_columnSquares  {I : WI} {L : WL} {o : Nat} {a1 : Int32}  {P : Int64 → Prop} {t : Tg} (ho : isX0 o) (hr : ∀ v, P v → t = (some (.long v), ly0, I, L, R0)) (kk : P (F_X0_columnSquares I o a1)) : V (zM x_X0_columnSquares 1 0 0 t) 0 [(0, .ref o), (1, .int a1)] [] ly0 I L R0 0 0 :=
  V_ldc2 (tat ok_X0_columnSquares_0 (i := 0) (q := 3) rfl rfl) (gw_in kl_X0_61 rfl) <|
    V_bipush (tat ok_X0_columnSquares_0 (i := 1) (q := 5) rfl rfl) bp_64 <|
    V_bipush (tat ok_X0_columnSquares_0 (i := 2) (q := 7) rfl rfl) bp_8 <|
    V_aload_n (tat ok_X0_columnSquares_0 (i := 3) (q := 8) rfl rfl) 0 rfl rfl <|
    V_getI (tat ok_X0_columnSquares_0 (i := 4) (q := 11) rfl rfl) fk_X0_11 ho <|
    V_imul (tat ok_X0_columnSquares_0 (i := 5) (q := 12) rfl rfl) <|
    V_isub (tat ok_X0_columnSquares_0 (i := 6) (q := 13) rfl rfl) <|
    V_lushr (tat ok_X0_columnSquares_0 (i := 7) (q := 14) rfl rfl) <|
    V_iload_n (tat ok_X0_columnSquares_0 (i := 8) (q := 15) rfl rfl) 1 rfl rfl <|
    V_lshl (tat ok_X0_columnSquares_0 (i := 9) (q := 16) rfl rfl) <|
    V_lret (tat ok_X0_columnSquares_0 (i := 10) (q := 17) rfl rfl) rfl (hr (lsh (lush 72340172838076673 (64 - (8 * (I o 1)))) a1) (jx (P := P) kk rfl)) ⟨(Nat.le_of_ble_eq_true rfl), (Nat.le_of_ble_eq_true rfl)⟩
theorem ct_X0_columnSquares  (I : WI) (L : WL) (o : Nat) (a1 : Int32) (ho : isX0 o) : Ct x_X0_columnSquares 1 [.ref o, .int a1] ly0 I L R0 0 0 (some (.long (F_X0_columnSquares I o a1)), ly0, I, L, R0) :=
  Ct_of_V mo_X0_columnSquares.1 (Nat.le_of_ble_eq_true rfl) (V_X0_columnSquares (P := fun x => x = (F_X0_columnSquares I o a1)) ho (fun _ e => by rw [e]) rfl)
def F_X0_allSquares (I : WI) (o : Nat) : Int64 :=
  ((Int32.toInt64 (F_X0_everyColumn I o)) * (F_X0_columnSquares I o 0))
theorem V_X0_allSquares  {I : WI} {L : WL} {o : Nat}  {P : Int64 → Prop} {t : Tg} (ho : isX0 o) (hr : ∀ v, P v → t = (some (.long v), ly0, I, L, R0)) (kk : P (F_X0_allSquares I o)) : V (zM x_X0_allSquares 2 0 0 t) 0 [(0, .ref o)] [] ly0 I L R0 0 0 :=
  V_aload_n (tat ok_X0_allSquares_0 (i := 0) (q := 1) rfl rfl) 0 rfl rfl <|
    V_cv0 (ct_X0_everyColumn I L o ho) mo_X0_everyColumn (tat ok_X0_allSquares_0 (i := 1) (q := 4) rfl rfl) ml_X0_36 ho ⟨by decide, _, rfl, rfl⟩ ⟨(Nat.le_of_ble_eq_true rfl), (Nat.le_of_ble_eq_true rfl)⟩ ⟨(Nat.le_of_ble_eq_true rfl), (Nat.le_of_ble_eq_true rfl)⟩ (Nat.le_of_ble_eq_true rfl) <|
    V_i2l (tat ok_X0_allSquares_0 (i := 2) (q := 5) rfl rfl) <|
    V_aload_n (tat ok_X0_allSquares_0 (i := 3) (q := 6) rfl rfl) 0 rfl rfl <|
    V_iconst (tat ok_X0_allSquares_0 (i := 4) (q := 7) rfl rfl) ic_0 <|
    V_cv1 (ct_X0_columnSquares I L o 0 ho) mo_X0_columnSquares (tat ok_X0_allSquares_0 (i := 5) (q := 10) rfl rfl) ml_X0_40 ho ⟨by decide, _, rfl, rfl⟩ ⟨(Nat.le_of_ble_eq_true rfl), (Nat.le_of_ble_eq_true rfl)⟩ ⟨(Nat.le_of_ble_eq_true rfl), (Nat.le_of_ble_eq_true rfl)⟩ (Nat.le_of_ble_eq_true rfl) <|
    V_lmul (tat ok_X0_allSquares_0 (i := 6) (q := 11) rfl rfl) <|
    V_lret (tat ok_X0_allSquares_0 (i := 7) (q := 12) rfl rfl) rfl (hr ((Int32.toInt64 (F_X0_everyColumn I o)) * (F_X0_columnSquares I o 0)) (jx (P := P) kk rfl)) ⟨(Nat.le_of_ble_eq_true rfl), (Nat.le_of_ble_eq_true rfl)⟩
theorem ct_X0_allSquares  (I : WI) (L : WL) (o : Nat) (ho : isX0 o) : Ct x_X0_allSquares 2 [.ref o] ly0 I L R0 0 0 (some (.long (F_X0_allSquares I o)), ly0, I, L, R0) :=
  Ct_of_V mo_X0_allSquares.1 (Nat.le_of_ble_eq_true rfl) (V_X0_allSquares (P := fun x => x = (F_X0_allSquares I o)) ho (fun _ e => by rw [e]) rfl)
def F_X0_resize (I : WI) (L : WL) (o : Nat) (a1 : Int32) (a2 : Int32) (a3 : Int64) : (WI × WL) :=
  ((u2 (u2 I o 1 a1) o 2 a2), (u2 L o 3 (a3 &&& (F_X0_allSquares (u2 (u2 I o 1 a1) o 2 a2) o))))
theorem V_X0_resize  {I : WI} {L : WL} {o : Nat} {a1 : Int32} {a2 : Int32} {a3 : Int64}  {P : (WI × WL) → Prop} {t : Tg} (ho : isX0 o) (hr : ∀ v, P v → t = (none, ly0, (p1 v), (p2 v), R0)) (kk : P (F_X0_resize I L o a1 a2 a3)) : V (zM x_X0_resize 3 0 0 t) 0 [(0, .ref o), (1, .int a1), (2, .int a2), (3, .long a3)] [] ly0 I L R0 0 0 :=
  V_aload_n (tat ok_X0_resize_0 (i := 0) (q := 1) rfl rfl) 0 rfl rfl <|
    V_iload_n (tat ok_X0_resize_0 (i := 1) (q := 2) rfl rfl) 1 rfl rfl <|
    V_putI (tat ok_X0_resize_0 (i := 2) (q := 5) rfl rfl) fk_X0_11 ho rfl <|
    V_aload_n (tat ok_X0_resize_0 (i := 3) (q := 6) rfl rfl) 0 rfl rfl <|
    V_iload_n (tat ok_X0_resize_0 (i := 4) (q := 7) rfl rfl) 2 rfl rfl <|
    V_putI (tat ok_X0_resize_0 (i := 5) (q := 10) rfl rfl) fk_X0_15 ho rfl <|
    V_aload_n (tat ok_X0_resize_0 (i := 6) (q := 11) rfl rfl) 0 rfl rfl <|
    V_lload_n (tat ok_X0_resize_0 (i := 7) (q := 12) rfl rfl) 3 rfl rfl <|
    V_aload_n (tat ok_X0_resize_0 (i := 8) (q := 13) rfl rfl) 0 rfl rfl <|
    V_cv0 (ct_X0_allSquares (u2 (u2 I o 1 a1) o 2 a2) L o ho) mo_X0_allSquares (tat ok_X0_resize_0 (i := 9) (q := 16) rfl rfl) ml_X0_26 ho ⟨by decide, _, rfl, rfl⟩ ⟨(Nat.le_of_ble_eq_true rfl), (Nat.le_of_ble_eq_true rfl)⟩ ⟨(Nat.le_of_ble_eq_true rfl), (Nat.le_of_ble_eq_true rfl)⟩ (Nat.le_of_ble_eq_true rfl) <|
    V_land (tat ok_X0_resize_0 (i := 10) (q := 17) rfl rfl) <|
    V_putL (tat ok_X0_resize_0 (i := 11) (q := 20) rfl rfl) fk_X0_22 ho rfl <|
    V_vret (tat ok_X0_resize_0 (i := 12) (q := 21) rfl rfl) rfl (hr ((u2 (u2 I o 1 a1) o 2 a2), (u2 L o 3 (a3 &&& (F_X0_allSquares (u2 (u2 I o 1 a1) o 2 a2) o)))) (jx (P := P) kk rfl)) ⟨(Nat.le_of_ble_eq_true rfl), (Nat.le_of_ble_eq_true rfl)⟩
theorem ct_X0_resize  (I : WI) (L : WL) (o : Nat) (a1 : Int32) (a2 : Int32) (a3 : Int64) (ho : isX0 o) : Ct x_X0_resize 3 [.ref o, .int a1, .int a2, .long a3] ly0 I L R0 0 0 (none, ly0, (p1 (F_X0_resize I L o a1 a2 a3)), (p2 (F_X0_resize I L o a1 a2 a3)), R0) :=
  Ct_of_V mo_X0_resize.1 (Nat.le_of_ble_eq_true rfl) (V_X0_resize (P := fun x => x = (F_X0_resize I L o a1 a2 a3)) ho (fun _ e => by rw [e]) rfl)
def F_X0_sameSize_27 (I : WI) (o : Nat) (r1 : Nat) (s0 : Int32) : Int32 :=
  s0
theorem V_X0_sameSize_27  {I : WI} {L : WL} {o : Nat} {r1 : Nat} {s0 : Int32} {P : Int32 → Prop} {t : Tg} (ho : isX0 o) (hr1 : isX0 r1) (hs0 : bz s0 = s0) (hr : ∀ v, P v → t = (some (.int v), ly0, I, L, R0)) (kk : P (F_X0_sameSize_27 I o r1 s0)) : V (zM x_X0_sameSize 1 0 0 t) 27 [(0, .ref o), (1, .ref r1)] [.int s0] ly0 I L R0 0 0 :=
  V_iret (tat ok_X0_sameSize_0 (i := 13) (q := 28) rfl rfl) _ rfl (bz_nf hs0).1 (hr s0 (jx (P := P) kk rfl)) ⟨(Nat.le_of_ble_eq_true rfl), (Nat.le_of_ble_eq_true rfl)⟩
def F_X0_sameSize_26 (I : WI) (o : Nat) (r1 : Nat) : Int32 :=
  (F_X0_sameSize_27 I o r1 0)
theorem V_X0_sameSize_26  {I : WI} {L : WL} {o : Nat} {r1 : Nat}  {P : Int32 → Prop} {t : Tg} (ho : isX0 o) (hr1 : isX0 r1) (hr : ∀ v, P v → t = (some (.int v), ly0, I, L, R0)) (kk : P (F_X0_sameSize_26 I o r1)) : V (zM x_X0_sameSize 1 0 0 t) 26 [(0, .ref o), (1, .ref r1)] [] ly0 I L R0 0 0 :=
  V_iconst (tat ok_X0_sameSize_0 (i := 12) (q := 27) rfl rfl) ic_0 <|
    V_X0_sameSize_27 ho hr1 rfl hr (jx (P := P) kk rfl)
def F_X0_sameSize (I : WI) (o : Nat) (r1 : Nat) : Int32 :=
  (if (I o 1) = (I r1 1) then (if (I o 2) = (I r1 2) then (F_X0_sameSize_27 I o r1 1) else (F_X0_sameSize_26 I o r1)) else (F_X0_sameSize_26 I o r1))
theorem V_X0_sameSize  {I : WI} {L : WL} {o : Nat} {r1 : Nat}  {P : Int32 → Prop} {t : Tg} (ho : isX0 o) (hr1 : isX0 r1) (hr : ∀ v, P v → t = (some (.int v), ly0, I, L, R0)) (kk : P (F_X0_sameSize I o r1)) : V (zM x_X0_sameSize 1 0 0 t) 0 [(0, .ref o), (1, .ref r1)] [] ly0 I L R0 0 0 :=
  V_aload_n (tat ok_X0_sameSize_0 (i := 0) (q := 1) rfl rfl) 0 rfl rfl <|
    V_getI (tat ok_X0_sameSize_0 (i := 1) (q := 4) rfl rfl) fk_X0_11 ho <|
    V_aload_n (tat ok_X0_sameSize_0 (i := 2) (q := 5) rfl rfl) 1 rfl rfl <|
    V_getI (tat ok_X0_sameSize_0 (i := 3) (q := 8) rfl rfl) fk_X0_11 hr1 <|
    V_icmp_ne (tat ok_X0_sameSize_0 (i := 4) (q := 11) rfl rfl) rfl (fun c1 => V_X0_sameSize_26 ho hr1 hr (jx (P := P) kk (if_neg c1))) (fun c1 => V_aload_n (tat ok_X0_sameSize_0 (i := 5) (q := 12) rfl rfl) 0 rfl rfl <|
    V_getI (tat ok_X0_sameSize_0 (i := 6) (q := 15) rfl rfl) fk_X0_15 ho <|
    V_aload_n (tat ok_X0_sameSize_0 (i := 7) (q := 16) rfl rfl) 1 rfl rfl <|
    V_getI (tat ok_X0_sameSize_0 (i := 8) (q := 19) rfl rfl) fk_X0_15 hr1 <|
    V_icmp_ne (tat ok_X0_sameSize_0 (i := 9) (q := 22) rfl rfl) rfl (fun c2 => V_X0_sameSize_26 ho hr1 hr (jx (P := P) kk (Eq.trans (if_pos c1) (if_neg c2)))) (fun c2 => V_iconst (tat ok_X0_sameSize_0 (i := 10) (q := 23) rfl rfl) ic_1 <|
    V_goto (tat ok_X0_sameSize_0 (i := 11) (q := 26) rfl rfl) rfl <|
    V_X0_sameSize_27 ho hr1 rfl hr (jx (P := P) kk (Eq.trans (if_pos c1) (if_pos c2)))))
theorem ct_X0_sameSize  (I : WI) (L : WL) (o : Nat) (r1 : Nat) (ho : isX0 o) (hr1 : isX0 r1) : Ct x_X0_sameSize 1 [.ref o, .ref r1] ly0 I L R0 0 0 (some (.int (F_X0_sameSize I o r1)), ly0, I, L, R0) :=
  Ct_of_V mo_X0_sameSize.1 (Nat.le_of_ble_eq_true rfl) (V_X0_sameSize (P := fun x => x = (F_X0_sameSize I o r1)) ho hr1 (fun _ e => by rw [e]) rfl)
def F_J13_bitCount_95d88_55 (a0 : Int64) : Int32 :=
  ((Int64.toInt32 a0) &&& 127)
theorem V_J13_bitCount_95d88_55  {I : WI} {L : WL}  {a0 : Int64} {P : Int32 → Prop} {t : Tg} (hr : ∀ v, P v → t = (some (.int v), ly0, I, L, R0)) (kk : P (F_J13_bitCount_95d88_55 a0)) : V (zM x_J13_bitCount_95d88 1 0 0 t) 55 [(0, .long a0)] [] ly0 I L R0 0 0 :=
  V_lload_n (tat ok_J13_bitCount_95d88_1 (i := 4) (q := 56) rfl rfl) 0 rfl rfl <|
    V_l2i (tat ok_J13_bitCount_95d88_1 (i := 5) (q := 57) rfl rfl) <|
    V_bipush (tat ok_J13_bitCount_95d88_1 (i := 6) (q := 59) rfl rfl) bp_127 <|
    V_iand (tat ok_J13_bitCount_95d88_1 (i := 7) (q := 60) rfl rfl) <|
    V_iret (tat ok_J13_bitCount_95d88_1 (i := 8) (q := 61) rfl rfl) _ rfl (nar_int _) (hr ((Int64.toInt32 a0) &&& 127) (jx (P := P) kk rfl)) ⟨(Nat.le_of_ble_eq_true rfl), (Nat.le_of_ble_eq_true rfl)⟩
def F_J13_bitCount_95d88_48 (a0 : Int64) : Int32 :=
  (F_J13_bitCount_95d88_55 (a0 + (lush a0 32)))
theorem V_J13_bitCount_95d88_48  {I : WI} {L : WL}  {a0 : Int64} {P : Int32 → Prop} {t : Tg} (hr : ∀ v, P v → t = (some (.int v), ly0, I, L, R0)) (kk : P (F_J13_bitCount_95d88_48 a0)) : V (zM x_J13_bitCount_95d88 1 0 0 t) 48 [(0, .long a0)] [] ly0 I L R0 0 0 :=
  V_lload_n (tat ok_J13_bitCount_95d88_0 (i := 38) (q := 49) rfl rfl) 0 rfl rfl <|
    V_lload_n (tat ok_J13_bitCount_95d88_0 (i := 39) (q := 50) rfl rfl) 0 rfl rfl <|
    V_bipush (tat ok_J13_bitCount_95d88_1 (i := 0) (q := 52) rfl rfl) bp_32 <|
    V_lushr (tat ok_J13_bitCount_95d88_1 (i := 1) (q := 53) rfl rfl) <|
    V_ladd (tat ok_J13_bitCount_95d88_1 (i := 2) (q := 54) rfl rfl) <|
    V_lstore_n (lv' := [(0, .long (a0 + (lush a0 32)))]) (tat ok_J13_bitCount_95d88_1 (i := 3) (q := 55) rfl rfl) rfl (Nat.le_of_ble_eq_true rfl) rfl <|
    V_J13_bitCount_95d88_55  hr (jx (P := P) kk rfl)
def F_J13_bitCount_95d88_41 (a0 : Int64) : Int32 :=
  (F_J13_bitCount_95d88_48 (a0 + (lush a0 16)))
theorem V_J13_bitCount_95d88_41  {I : WI} {L : WL}  {a0 : Int64} {P : Int32 → Prop} {t : Tg} (hr : ∀ v, P v → t = (some (.int v), ly0, I, L, R0)) (kk : P (F_J13_bitCount_95d88_41 a0)) : V (zM x_J13_bitCount_95d88 1 0 0 t) 41 [(0, .long a0)] [] ly0 I L R0 0 0 :=
  V_lload_n (tat ok_J13_bitCount_95d88_0 (i := 32) (q := 42) rfl rfl) 0 rfl rfl <|
    V_lload_n (tat ok_J13_bitCount_95d88_0 (i := 33) (q := 43) rfl rfl) 0 rfl rfl <|
    V_bipush (tat ok_J13_bitCount_95d88_0 (i := 34) (q := 45) rfl rfl) bp_16 <|
    V_lushr (tat ok_J13_bitCount_95d88_0 (i := 35) (q := 46) rfl rfl) <|
    V_ladd (tat ok_J13_bitCount_95d88_0 (i := 36) (q := 47) rfl rfl) <|
    V_lstore_n (lv' := [(0, .long (a0 + (lush a0 16)))]) (tat ok_J13_bitCount_95d88_0 (i := 37) (q := 48) rfl rfl) rfl (Nat.le_of_ble_eq_true rfl) rfl <|
    V_J13_bitCount_95d88_48  hr (jx (P := P) kk rfl)
def F_J13_bitCount_95d88_34 (a0 : Int64) : Int32 :=
  (F_J13_bitCount_95d88_41 (a0 + (lush a0 8)))
theorem V_J13_bitCount_95d88_34  {I : WI} {L : WL}  {a0 : Int64} {P : Int32 → Prop} {t : Tg} (hr : ∀ v, P v → t = (some (.int v), ly0, I, L, R0)) (kk : P (F_J13_bitCount_95d88_34 a0)) : V (zM x_J13_bitCount_95d88 1 0 0 t) 34 [(0, .long a0)] [] ly0 I L R0 0 0 :=
  V_lload_n (tat ok_J13_bitCount_95d88_0 (i := 26) (q := 35) rfl rfl) 0 rfl rfl <|
    V_lload_n (tat ok_J13_bitCount_95d88_0 (i := 27) (q := 36) rfl rfl) 0 rfl rfl <|
    V_bipush (tat ok_J13_bitCount_95d88_0 (i := 28) (q := 38) rfl rfl) bp_8 <|
    V_lushr (tat ok_J13_bitCount_95d88_0 (i := 29) (q := 39) rfl rfl) <|
    V_ladd (tat ok_J13_bitCount_95d88_0 (i := 30) (q := 40) rfl rfl) <|
    V_lstore_n (lv' := [(0, .long (a0 + (lush a0 8)))]) (tat ok_J13_bitCount_95d88_0 (i := 31) (q := 41) rfl rfl) rfl (Nat.le_of_ble_eq_true rfl) rfl <|
    V_J13_bitCount_95d88_41  hr (jx (P := P) kk rfl)
def F_J13_bitCount_95d88_24 (a0 : Int64) : Int32 :=
  (F_J13_bitCount_95d88_34 ((a0 + (lush a0 4)) &&& 1085102592571150095))
theorem V_J13_bitCount_95d88_24  {I : WI} {L : WL}  {a0 : Int64} {P : Int32 → Prop} {t : Tg} (hr : ∀ v, P v → t = (some (.int v), ly0, I, L, R0)) (kk : P (F_J13_bitCount_95d88_24 a0)) : V (zM x_J13_bitCount_95d88 1 0 0 t) 24 [(0, .long a0)] [] ly0 I L R0 0 0 :=
  V_lload_n (tat ok_J13_bitCount_95d88_0 (i := 18) (q := 25) rfl rfl) 0 rfl rfl <|
    V_lload_n (tat ok_J13_bitCount_95d88_0 (i := 19) (q := 26) rfl rfl) 0 rfl rfl <|
    V_iconst (tat ok_J13_bitCount_95d88_0 (i := 20) (q := 27) rfl rfl) ic_4 <|
    V_lushr (tat ok_J13_bitCount_95d88_0 (i := 21) (q := 28) rfl rfl) <|
    V_ladd (tat ok_J13_bitCount_95d88_0 (i := 22) (q := 29) rfl rfl) <|
    V_ldc2 (tat ok_J13_bitCount_95d88_0 (i := 23) (q := 32) rfl rfl) (gw_in kl_J13_318 rfl) <|
    V_land (tat ok_J13_bitCount_95d88_0 (i := 24) (q := 33) rfl rfl) <|
    V_lstore_n (lv' := [(0, .long ((a0 + (lush a0 4)) &&& 1085102592571150095))]) (tat ok_J13_bitCount_95d88_0 (i := 25) (q := 34) rfl rfl) rfl (Nat.le_of_ble_eq_true rfl) rfl <|
    V_J13_bitCount_95d88_34  hr (jx (P := P) kk rfl)
def F_J13_bitCount_95d88_10 (a0 : Int64) : Int32 :=
  (F_J13_bitCount_95d88_24 ((a0 &&& 3689348814741910323) + ((lush a0 2) &&& 3689348814741910323)))
theorem V_J13_bitCount_95d88_10  {I : WI} {L : WL}  {a0 : Int64} {P : Int32 → Prop} {t : Tg} (hr : ∀ v, P v → t = (some (.int v), ly0, I, L, R0)) (kk : P (F_J13_bitCount_95d88_10 a0)) : V (zM x_J13_bitCount_95d88 1 0 0 t) 10 [(0, .long a0)] [] ly0 I L R0 0 0 :=
  V_lload_n (tat ok_J13_bitCount_95d88_0 (i := 8) (q := 11) rfl rfl) 0 rfl rfl <|
    V_ldc2 (tat ok_J13_bitCount_95d88_0 (i := 9) (q := 14) rfl rfl) (gw_in kl_J13_316 rfl) <|
    V_land (tat ok_J13_bitCount_95d88_0 (i := 10) (q := 15) rfl rfl) <|
    V_lload_n (tat ok_J13_bitCount_95d88_0 (i := 11) (q := 16) rfl rfl) 0 rfl rfl <|
    V_iconst (tat ok_J13_bitCount_95d88_0 (i := 12) (q := 17) rfl rfl) ic_2 <|
    V_lushr (tat ok_J13_bitCount_95d88_0 (i := 13) (q := 18) rfl rfl) <|
    V_ldc2 (tat ok_J13_bitCount_95d88_0 (i := 14) (q := 21) rfl rfl) (gw_in kl_J13_316 rfl) <|
    V_land (tat ok_J13_bitCount_95d88_0 (i := 15) (q := 22) rfl rfl) <|
    V_ladd (tat ok_J13_bitCount_95d88_0 (i := 16) (q := 23) rfl rfl) <|
    V_lstore_n (lv' := [(0, .long ((a0 &&& 3689348814741910323) + ((lush a0 2) &&& 3689348814741910323)))]) (tat ok_J13_bitCount_95d88_0 (i := 17) (q := 24) rfl rfl) rfl (Nat.le_of_ble_eq_true rfl) rfl <|
    V_J13_bitCount_95d88_24  hr (jx (P := P) kk rfl)
def F_J13_bitCount_95d88 (a0 : Int64) : Int32 :=
  (F_J13_bitCount_95d88_10 (a0 - ((lush a0 1) &&& 6148914691236517205)))
theorem V_J13_bitCount_95d88  {I : WI} {L : WL}  {a0 : Int64} {P : Int32 → Prop} {t : Tg} (hr : ∀ v, P v → t = (some (.int v), ly0, I, L, R0)) (kk : P (F_J13_bitCount_95d88 a0)) : V (zM x_J13_bitCount_95d88 1 0 0 t) 0 [(0, .long a0)] [] ly0 I L R0 0 0 :=
  V_lload_n (tat ok_J13_bitCount_95d88_0 (i := 0) (q := 1) rfl rfl) 0 rfl rfl <|
    V_lload_n (tat ok_J13_bitCount_95d88_0 (i := 1) (q := 2) rfl rfl) 0 rfl rfl <|
    V_iconst (tat ok_J13_bitCount_95d88_0 (i := 2) (q := 3) rfl rfl) ic_1 <|
    V_lushr (tat ok_J13_bitCount_95d88_0 (i := 3) (q := 4) rfl rfl) <|
    V_ldc2 (tat ok_J13_bitCount_95d88_0 (i := 4) (q := 7) rfl rfl) (gw_in kl_J13_314 rfl) <|
    V_land (tat ok_J13_bitCount_95d88_0 (i := 5) (q := 8) rfl rfl) <|
    V_lsub (tat ok_J13_bitCount_95d88_0 (i := 6) (q := 9) rfl rfl) <|
    V_lstore_n (lv' := [(0, .long (a0 - ((lush a0 1) &&& 6148914691236517205)))]) (tat ok_J13_bitCount_95d88_0 (i := 7) (q := 10) rfl rfl) rfl (Nat.le_of_ble_eq_true rfl) rfl <|
    V_J13_bitCount_95d88_10  hr (jx (P := P) kk rfl)
theorem ct_J13_bitCount_95d88  (I : WI) (L : WL)  (a0 : Int64)  : Ct x_J13_bitCount_95d88 1 [.long a0] ly0 I L R0 0 0 (some (.int (F_J13_bitCount_95d88 a0)), ly0, I, L, R0) :=
  Ct_of_V mo_J13_bitCount_95d88.1 (Nat.le_of_ble_eq_true rfl) (V_J13_bitCount_95d88 (P := fun x => x = (F_J13_bitCount_95d88 a0))  (fun _ e => by rw [e]) rfl)
def F_X0_darkSquares (L : WL) (o : Nat) : Int32 :=
  (F_J13_bitCount_95d88 (L o 3))
theorem V_X0_darkSquares  {I : WI} {L : WL} {o : Nat}  {P : Int32 → Prop} {t : Tg} (ho : isX0 o) (hr : ∀ v, P v → t = (some (.int v), ly0, I, L, R0)) (kk : P (F_X0_darkSquares L o)) : V (zM x_X0_darkSquares 2 0 0 t) 0 [(0, .ref o)] [] ly0 I L R0 0 0 :=
  V_aload_n (tat ok_X0_darkSquares_0 (i := 0) (q := 1) rfl rfl) 0 rfl rfl <|
    V_getL (tat ok_X0_darkSquares_0 (i := 1) (q := 4) rfl rfl) fk_X0_22 ho <|
    V_cs1 (ct_J13_bitCount_95d88 I L (L o 3) ) mo_J13_bitCount_95d88 (tat ok_X0_darkSquares_0 (i := 2) (q := 7) rfl rfl) ml_X0_30 ⟨(Nat.le_of_ble_eq_true rfl), (Nat.le_of_ble_eq_true rfl)⟩ ⟨(Nat.le_of_ble_eq_true rfl), (Nat.le_of_ble_eq_true rfl)⟩ (Nat.le_of_ble_eq_true rfl) <|
    V_iret (tat ok_X0_darkSquares_0 (i := 3) (q := 8) rfl rfl) _ rfl (nar_int _) (hr (F_J13_bitCount_95d88 (L o 3)) (jx (P := P) kk rfl)) ⟨(Nat.le_of_ble_eq_true rfl), (Nat.le_of_ble_eq_true rfl)⟩
theorem ct_X0_darkSquares  (I : WI) (L : WL) (o : Nat) (ho : isX0 o) : Ct x_X0_darkSquares 2 [.ref o] ly0 I L R0 0 0 (some (.int (F_X0_darkSquares L o)), ly0, I, L, R0) :=
  Ct_of_V mo_X0_darkSquares.1 (Nat.le_of_ble_eq_true rfl) (V_X0_darkSquares (P := fun x => x = (F_X0_darkSquares L o)) ho (fun _ e => by rw [e]) rfl)
def F_X0_everyRow (I : WI) (o : Nat) : Int32 :=
  ((1 <<< ((I o 1) &&& 31)) - 1)
theorem V_X0_everyRow  {I : WI} {L : WL} {o : Nat}  {P : Int32 → Prop} {t : Tg} (ho : isX0 o) (hr : ∀ v, P v → t = (some (.int v), ly0, I, L, R0)) (kk : P (F_X0_everyRow I o)) : V (zM x_X0_everyRow 1 0 0 t) 0 [(0, .ref o)] [] ly0 I L R0 0 0 :=
  V_iconst (tat ok_X0_everyRow_0 (i := 0) (q := 1) rfl rfl) ic_1 <|
    V_aload_n (tat ok_X0_everyRow_0 (i := 1) (q := 2) rfl rfl) 0 rfl rfl <|
    V_getI (tat ok_X0_everyRow_0 (i := 2) (q := 5) rfl rfl) fk_X0_11 ho <|
    V_ishl (tat ok_X0_everyRow_0 (i := 3) (q := 6) rfl rfl) <|
    V_iconst (tat ok_X0_everyRow_0 (i := 4) (q := 7) rfl rfl) ic_1 <|
    V_isub (tat ok_X0_everyRow_0 (i := 5) (q := 8) rfl rfl) <|
    V_iret (tat ok_X0_everyRow_0 (i := 6) (q := 9) rfl rfl) _ rfl (nar_int _) (hr ((1 <<< ((I o 1) &&& 31)) - 1) (jx (P := P) kk rfl)) ⟨(Nat.le_of_ble_eq_true rfl), (Nat.le_of_ble_eq_true rfl)⟩
theorem ct_X0_everyRow  (I : WI) (L : WL) (o : Nat) (ho : isX0 o) : Ct x_X0_everyRow 1 [.ref o] ly0 I L R0 0 0 (some (.int (F_X0_everyRow I o)), ly0, I, L, R0) :=
  Ct_of_V mo_X0_everyRow.1 (Nat.le_of_ble_eq_true rfl) (V_X0_everyRow (P := fun x => x = (F_X0_everyRow I o)) ho (fun _ e => by rw [e]) rfl)
def F_X0_hasSquare_29 (I : WI) (o : Nat) (a1 : Int32) (a2 : Int32) (s0 : Int32) : Int32 :=
  s0
theorem V_X0_hasSquare_29  {I : WI} {L : WL} {o : Nat} {a1 : Int32} {a2 : Int32} {s0 : Int32} {P : Int32 → Prop} {t : Tg} (ho : isX0 o) (hs0 : bz s0 = s0) (hr : ∀ v, P v → t = (some (.int v), ly0, I, L, R0)) (kk : P (F_X0_hasSquare_29 I o a1 a2 s0)) : V (zM x_X0_hasSquare 1 0 0 t) 29 [(0, .ref o), (1, .int a1), (2, .int a2)] [.int s0] ly0 I L R0 0 0 :=
  V_iret (tat ok_X0_hasSquare_0 (i := 15) (q := 30) rfl rfl) _ rfl (bz_nf hs0).1 (hr s0 (jx (P := P) kk rfl)) ⟨(Nat.le_of_ble_eq_true rfl), (Nat.le_of_ble_eq_true rfl)⟩
def F_X0_hasSquare_28 (I : WI) (o : Nat) (a1 : Int32) (a2 : Int32) : Int32 :=
  (F_X0_hasSquare_29 I o a1 a2 0)
theorem V_X0_hasSquare_28  {I : WI} {L : WL} {o : Nat} {a1 : Int32} {a2 : Int32}  {P : Int32 → Prop} {t : Tg} (ho : isX0 o) (hr : ∀ v, P v → t = (some (.int v), ly0, I, L, R0)) (kk : P (F_X0_hasSquare_28 I o a1 a2)) : V (zM x_X0_hasSquare 1 0 0 t) 28 [(0, .ref o), (1, .int a1), (2, .int a2)] [] ly0 I L R0 0 0 :=
  V_iconst (tat ok_X0_hasSquare_0 (i := 14) (q := 29) rfl rfl) ic_0 <|
    V_X0_hasSquare_29 ho rfl hr (jx (P := P) kk rfl)
def F_X0_hasSquare (I : WI) (o : Nat) (a1 : Int32) (a2 : Int32) : Int32 :=
  (if a1 < 0 then (F_X0_hasSquare_28 I o a1 a2) else (if (I o 1) ≤ a1 then (F_X0_hasSquare_28 I o a1 a2) else (if a2 < 0 then (F_X0_hasSquare_28 I o a1 a2) else (if (I o 2) ≤ a2 then (F_X0_hasSquare_28 I o a1 a2) else (F_X0_hasSquare_29 I o a1 a2 1)))))
theorem V_X0_hasSquare  {I : WI} {L : WL} {o : Nat} {a1 : Int32} {a2 : Int32}  {P : Int32 → Prop} {t : Tg} (ho : isX0 o) (hr : ∀ v, P v → t = (some (.int v), ly0, I, L, R0)) (kk : P (F_X0_hasSquare I o a1 a2)) : V (zM x_X0_hasSquare 1 0 0 t) 0 [(0, .ref o), (1, .int a1), (2, .int a2)] [] ly0 I L R0 0 0 :=
  V_iload_n (tat ok_X0_hasSquare_0 (i := 0) (q := 1) rfl rfl) 1 rfl rfl <|
    V_if_lt (tat ok_X0_hasSquare_0 (i := 1) (q := 4) rfl rfl) rfl (fun c1 => V_X0_hasSquare_28 ho hr (jx (P := P) kk (if_pos c1))) (fun c1 => V_iload_n (tat ok_X0_hasSquare_0 (i := 2) (q := 5) rfl rfl) 1 rfl rfl <|
    V_aload_n (tat ok_X0_hasSquare_0 (i := 3) (q := 6) rfl rfl) 0 rfl rfl <|
    V_getI (tat ok_X0_hasSquare_0 (i := 4) (q := 9) rfl rfl) fk_X0_11 ho <|
    V_icmp_ge (tat ok_X0_hasSquare_0 (i := 5) (q := 12) rfl rfl) rfl (fun c2 => V_X0_hasSquare_28 ho hr (jx (P := P) kk (Eq.trans (if_neg c1) (if_pos c2)))) (fun c2 => V_iload_n (tat ok_X0_hasSquare_0 (i := 6) (q := 13) rfl rfl) 2 rfl rfl <|
    V_if_lt (tat ok_X0_hasSquare_0 (i := 7) (q := 16) rfl rfl) rfl (fun c3 => V_X0_hasSquare_28 ho hr (jx (P := P) kk (Eq.trans (if_neg c1) (Eq.trans (if_neg c2) (if_pos c3))))) (fun c3 => V_iload_n (tat ok_X0_hasSquare_0 (i := 8) (q := 17) rfl rfl) 2 rfl rfl <|
    V_aload_n (tat ok_X0_hasSquare_0 (i := 9) (q := 18) rfl rfl) 0 rfl rfl <|
    V_getI (tat ok_X0_hasSquare_0 (i := 10) (q := 21) rfl rfl) fk_X0_15 ho <|
    V_icmp_ge (tat ok_X0_hasSquare_0 (i := 11) (q := 24) rfl rfl) rfl (fun c4 => V_X0_hasSquare_28 ho hr (jx (P := P) kk (Eq.trans (if_neg c1) (Eq.trans (if_neg c2) (Eq.trans (if_neg c3) (if_pos c4)))))) (fun c4 => V_iconst (tat ok_X0_hasSquare_0 (i := 12) (q := 25) rfl rfl) ic_1 <|
    V_goto (tat ok_X0_hasSquare_0 (i := 13) (q := 28) rfl rfl) rfl <|
    V_X0_hasSquare_29 ho rfl hr (jx (P := P) kk (Eq.trans (if_neg c1) (Eq.trans (if_neg c2) (Eq.trans (if_neg c3) (if_neg c4)))))))))
theorem ct_X0_hasSquare  (I : WI) (L : WL) (o : Nat) (a1 : Int32) (a2 : Int32) (ho : isX0 o) : Ct x_X0_hasSquare 1 [.ref o, .int a1, .int a2] ly0 I L R0 0 0 (some (.int (F_X0_hasSquare I o a1 a2)), ly0, I, L, R0) :=
  Ct_of_V mo_X0_hasSquare.1 (Nat.le_of_ble_eq_true rfl) (V_X0_hasSquare (P := fun x => x = (F_X0_hasSquare I o a1 a2)) ho (fun _ e => by rw [e]) rfl)
def F_X0_squareAt (L : WL) (o : Nat) (a1 : Int32) (a2 : Int32) : Int32 :=
  ((Int64.toInt32 (lush (L o 3) ((8 * a1) + a2))) &&& 1)
theorem V_X0_squareAt  {I : WI} {L : WL} {o : Nat} {a1 : Int32} {a2 : Int32}  {P : Int32 → Prop} {t : Tg} (ho : isX0 o) (hr : ∀ v, P v → t = (some (.int v), ly0, I, L, R0)) (kk : P (F_X0_squareAt L o a1 a2)) : V (zM x_X0_squareAt 1 0 0 t) 0 [(0, .ref o), (1, .int a1), (2, .int a2)] [] ly0 I L R0 0 0 :=
  V_aload_n (tat ok_X0_squareAt_0 (i := 0) (q := 1) rfl rfl) 0 rfl rfl <|
    V_getL (tat ok_X0_squareAt_0 (i := 1) (q := 4) rfl rfl) fk_X0_22 ho <|
    V_bipush (tat ok_X0_squareAt_0 (i := 2) (q := 6) rfl rfl) bp_8 <|
    V_iload_n (tat ok_X0_squareAt_0 (i := 3) (q := 7) rfl rfl) 1 rfl rfl <|
    V_imul (tat ok_X0_squareAt_0 (i := 4) (q := 8) rfl rfl) <|
    V_iload_n (tat ok_X0_squareAt_0 (i := 5) (q := 9) rfl rfl) 2 rfl rfl <|
    V_iadd (tat ok_X0_squareAt_0 (i := 6) (q := 10) rfl rfl) <|
    V_lushr (tat ok_X0_squareAt_0 (i := 7) (q := 11) rfl rfl) <|
    V_l2i (tat ok_X0_squareAt_0 (i := 8) (q := 12) rfl rfl) <|
    V_iconst (tat ok_X0_squareAt_0 (i := 9) (q := 13) rfl rfl) ic_1 <|
    V_iand (tat ok_X0_squareAt_0 (i := 10) (q := 14) rfl rfl) <|
    V_iret (tat ok_X0_squareAt_0 (i := 11) (q := 15) rfl rfl) _ rfl (nar_int _) (hr ((Int64.toInt32 (lush (L o 3) ((8 * a1) + a2))) &&& 1) (jx (P := P) kk rfl)) ⟨(Nat.le_of_ble_eq_true rfl), (Nat.le_of_ble_eq_true rfl)⟩
theorem ct_X0_squareAt  (I : WI) (L : WL) (o : Nat) (a1 : Int32) (a2 : Int32) (ho : isX0 o) : Ct x_X0_squareAt 1 [.ref o, .int a1, .int a2] ly0 I L R0 0 0 (some (.int (F_X0_squareAt L o a1 a2)), ly0, I, L, R0) :=
  Ct_of_V mo_X0_squareAt.1 (Nat.le_of_ble_eq_true rfl) (V_X0_squareAt (P := fun x => x = (F_X0_squareAt L o a1 a2)) ho (fun _ e => by rw [e]) rfl)
def F_X0_colour_44 (L : WL) (o : Nat) (a1 : Int32) (a2 : Int32) (a3 : Int32) (a4 : Int32) (s0 : Int64) : (Int32 × WL) :=
  (a4, (u2 L o 3 s0))
theorem V_X0_colour_44  {I : WI} {L : WL} {o : Nat} {a1 : Int32} {a2 : Int32} {a3 : Int32} {a4 : Int32} {s0 : Int64} {P : (Int32 × WL) → Prop} {t : Tg} (ho : isX0 o) (hr : ∀ v, P v → t = (some (.int (p1 v)), ly0, I, (p2 v), R0)) (kk : P (F_X0_colour_44 L o a1 a2 a3 a4 s0)) : V (zM x_X0_colour 2 0 0 t) 44 [(0, .ref o), (1, .int a1), (2, .int a2), (3, .int a3), (4, .int a4)] [.long s0, .ref o] ly0 I L R0 0 0 :=
  V_putL (tat ok_X0_colour_0 (i := 27) (q := 47) rfl rfl) fk_X0_22 ho rfl <|
    V_iload (tat ok_X0_colour_0 (i := 28) (q := 49) rfl rfl) 4 rfl <|
    V_iret (tat ok_X0_colour_0 (i := 29) (q := 50) rfl rfl) _ rfl (nar_int _) (hr (a4, (u2 L o 3 s0)) (jx (P := P) kk rfl)) ⟨(Nat.le_of_ble_eq_true rfl), (Nat.le_of_ble_eq_true rfl)⟩
def F_X0_colour (L : WL) (o : Nat) (a1 : Int32) (a2 : Int32) (a3 : Int32) : (Int32 × WL) :=
  (if a3 = 0 then (F_X0_colour_44 L o a1 a2 a3 (F_X0_squareAt L o a1 a2) ((L o 3) &&& ((lsh 1 ((8 * a1) + a2)) ^^^ (-1)))) else (F_X0_colour_44 L o a1 a2 a3 (F_X0_squareAt L o a1 a2) ((L o 3) ||| (lsh 1 ((8 * a1) + a2)))))
theorem V_X0_colour  {I : WI} {L : WL} {o : Nat} {a1 : Int32} {a2 : Int32} {a3 : Int32}  {P : (Int32 × WL) → Prop} {t : Tg} (ho : isX0 o) (hr : ∀ v, P v → t = (some (.int (p1 v)), ly0, I, (p2 v), R0)) (kk : P (F_X0_colour L o a1 a2 a3)) : V (zM x_X0_colour 2 0 0 t) 0 [(0, .ref o), (1, .int a1), (2, .int a2), (3, .int a3)] [] ly0 I L R0 0 0 :=
  V_aload_n (tat ok_X0_colour_0 (i := 0) (q := 1) rfl rfl) 0 rfl rfl <|
    V_iload_n (tat ok_X0_colour_0 (i := 1) (q := 2) rfl rfl) 1 rfl rfl <|
    V_iload_n (tat ok_X0_colour_0 (i := 2) (q := 3) rfl rfl) 2 rfl rfl <|
    V_cv2 (ct_X0_squareAt I L o a1 a2 ho) mo_X0_squareAt (tat ok_X0_colour_0 (i := 3) (q := 6) rfl rfl) ml_X0_44 ho ⟨by decide, _, rfl, rfl⟩ ⟨(Nat.le_of_ble_eq_true rfl), (Nat.le_of_ble_eq_true rfl)⟩ ⟨(Nat.le_of_ble_eq_true rfl), (Nat.le_of_ble_eq_true rfl)⟩ (Nat.le_of_ble_eq_true rfl) <|
    V_istore (lv' := [(4, .int (F_X0_squareAt L o a1 a2)), (0, .ref o), (1, .int a1), (2, .int a2), (3, .int a3)]) (tat ok_X0_colour_0 (i := 4) (q := 8) rfl rfl) (Nat.le_of_ble_eq_true rfl) rfl <|
    V_lconst (v := 1) (tat ok_X0_colour_0 (i := 5) (q := 9) rfl rfl) rfl <|
    V_bipush (tat ok_X0_colour_0 (i := 6) (q := 11) rfl rfl) bp_8 <|
    V_iload_n (tat ok_X0_colour_0 (i := 7) (q := 12) rfl rfl) 2 rfl rfl <|
    V_imul (tat ok_X0_colour_0 (i := 8) (q := 13) rfl rfl) <|
    V_iload_n (tat ok_X0_colour_0 (i := 9) (q := 14) rfl rfl) 3 rfl rfl <|
    V_iadd (tat ok_X0_colour_0 (i := 10) (q := 15) rfl rfl) <|
    V_lshl (tat ok_X0_colour_0 (i := 11) (q := 16) rfl rfl) <|
    V_lstore (lv' := [(5, .long (lsh 1 ((8 * a1) + a2))), (4, .int (F_X0_squareAt L o a1 a2)), (0, .ref o), (1, .int a1), (2, .int a2), (3, .int a3)]) (tat ok_X0_colour_0 (i := 12) (q := 18) rfl rfl) (Nat.le_of_ble_eq_true rfl) rfl <|
    V_aload_n (tat ok_X0_colour_0 (i := 13) (q := 19) rfl rfl) 2 rfl rfl <|
    V_iload_n (tat ok_X0_colour_0 (i := 14) (q := 20) rfl rfl) 5 rfl rfl <|
    V_if_eq (tat ok_X0_colour_0 (i := 15) (q := 23) rfl rfl) rfl (fun c1 => V_aload_n (tat ok_X0_colour_0 (i := 21) (q := 34) rfl rfl) 2 rfl rfl <|
    V_getL (tat ok_X0_colour_0 (i := 22) (q := 37) rfl rfl) fk_X0_22 ho <|
    V_lload (tat ok_X0_colour_0 (i := 23) (q := 39) rfl rfl) 0 rfl <|
    V_ldc2 (tat ok_X0_colour_0 (i := 24) (q := 42) rfl rfl) (gw_in kl_X0_48 rfl) <|
    V_lxor (tat ok_X0_colour_0 (i := 25) (q := 43) rfl rfl) <|
    V_land (tat ok_X0_colour_0 (i := 26) (q := 44) rfl rfl) <|
    V_pick [2, 3, 4, 5, 1] rfl (V_X0_colour_44 ho hr (jx (P := P) kk (if_pos c1)))) (fun c1 => V_aload_n (tat ok_X0_colour_0 (i := 16) (q := 24) rfl rfl) 2 rfl rfl <|
    V_getL (tat ok_X0_colour_0 (i := 17) (q := 27) rfl rfl) fk_X0_22 ho <|
    V_lload (tat ok_X0_colour_0 (i := 18) (q := 29) rfl rfl) 0 rfl <|
    V_lor (tat ok_X0_colour_0 (i := 19) (q := 30) rfl rfl) <|
    V_goto (tat ok_X0_colour_0 (i := 20) (q := 33) rfl rfl) rfl <|
    V_pick [2, 3, 4, 5, 1] rfl (V_X0_colour_44 ho hr (jx (P := P) kk (if_neg c1))))
theorem ct_X0_colour  (I : WI) (L : WL) (o : Nat) (a1 : Int32) (a2 : Int32) (a3 : Int32) (ho : isX0 o) : Ct x_X0_colour 2 [.ref o, .int a1, .int a2, .int a3] ly0 I L R0 0 0 (some (.int (p1 (F_X0_colour L o a1 a2 a3))), ly0, I, (p2 (F_X0_colour L o a1 a2 a3)), R0) :=
  Ct_of_V mo_X0_colour.1 (Nat.le_of_ble_eq_true rfl) (V_X0_colour (P := fun x => x = (F_X0_colour L o a1 a2 a3)) ho (fun _ e => by rw [e]) rfl)
def F_X0_linesOf (I : WI) (o : Nat) (a1 : Int32) : Int32 :=
  (if a1 = 0 then (I o 1) else (if a1 = 1 then (I o 2) else (if a1 = 2 then (((I o 1) + (I o 2)) - 1) else 0)))
theorem V_X0_linesOf  {I : WI} {L : WL} {o : Nat} {a1 : Int32}  {P : Int32 → Prop} {t : Tg} (ho : isX0 o) (hr : ∀ v, P v → t = (some (.int v), ly0, I, L, R0)) (kk : P (F_X0_linesOf I o a1)) : V (zM x_X0_linesOf 1 0 0 t) 0 [(0, .ref o), (1, .int a1)] [] ly0 I L R0 0 0 :=
  V_iload_n (tat ok_X0_linesOf_0 (i := 0) (q := 1) rfl rfl) 1 rfl rfl <|
    (if c1 : a1 = 0 then V_tswJ (tgt := 28) (off := 27) 0 (tat ok_X0_linesOf_0 (i := 1) (q := 28) rfl rfl) (swj c1) ⟨rfl, by decide⟩ rfl (V_aload_n (tat ok_X0_linesOf_0 (i := 2) (q := 29) rfl rfl) 0 rfl rfl <|
    V_getI (tat ok_X0_linesOf_0 (i := 3) (q := 32) rfl rfl) fk_X0_11 ho <|
    V_iret (tat ok_X0_linesOf_0 (i := 4) (q := 33) rfl rfl) _ rfl (nar_int _) (hr (I o 1) (jx (P := P) kk (if_pos c1))) ⟨(Nat.le_of_ble_eq_true rfl), (Nat.le_of_ble_eq_true rfl)⟩) else (if c2 : a1 = 1 then V_tswJ (tgt := 33) (off := 32) 1 (tat ok_X0_linesOf_0 (i := 1) (q := 28) rfl rfl) (swj c2) ⟨rfl, by decide⟩ rfl (V_aload_n (tat ok_X0_linesOf_0 (i := 5) (q := 34) rfl rfl) 0 rfl rfl <|
    V_getI (tat ok_X0_linesOf_0 (i := 6) (q := 37) rfl rfl) fk_X0_15 ho <|
    V_iret (tat ok_X0_linesOf_0 (i := 7) (q := 38) rfl rfl) _ rfl (nar_int _) (hr (I o 2) (jx (P := P) kk (Eq.trans (if_neg c1) (if_pos c2)))) ⟨(Nat.le_of_ble_eq_true rfl), (Nat.le_of_ble_eq_true rfl)⟩) else (if c3 : a1 = 2 then V_tswJ (tgt := 38) (off := 37) 2 (tat ok_X0_linesOf_0 (i := 1) (q := 28) rfl rfl) (swj c3) ⟨rfl, by decide⟩ rfl (V_aload_n (tat ok_X0_linesOf_0 (i := 8) (q := 39) rfl rfl) 0 rfl rfl <|
    V_getI (tat ok_X0_linesOf_0 (i := 9) (q := 42) rfl rfl) fk_X0_11 ho <|
    V_aload_n (tat ok_X0_linesOf_0 (i := 10) (q := 43) rfl rfl) 0 rfl rfl <|
    V_getI (tat ok_X0_linesOf_0 (i := 11) (q := 46) rfl rfl) fk_X0_15 ho <|
    V_iadd (tat ok_X0_linesOf_0 (i := 12) (q := 47) rfl rfl) <|
    V_iconst (tat ok_X0_linesOf_0 (i := 13) (q := 48) rfl rfl) ic_1 <|
    V_isub (tat ok_X0_linesOf_0 (i := 14) (q := 49) rfl rfl) <|
    V_iret (tat ok_X0_linesOf_0 (i := 15) (q := 50) rfl rfl) _ rfl (nar_int _) (hr (((I o 1) + (I o 2)) - 1) (jx (P := P) kk (Eq.trans (if_neg c1) (Eq.trans (if_neg c2) (if_pos c3))))) ⟨(Nat.le_of_ble_eq_true rfl), (Nat.le_of_ble_eq_true rfl)⟩) else V_tswD (tgt := 50) (tat ok_X0_linesOf_0 (i := 1) (q := 28) rfl rfl) (sw3 c1 c2 c3) rfl (V_iconst (tat ok_X0_linesOf_0 (i := 16) (q := 51) rfl rfl) ic_0 <|
    V_iret (tat ok_X0_linesOf_0 (i := 17) (q := 52) rfl rfl) _ rfl (nar_int _) (hr 0 (jx (P := P) kk (Eq.trans (if_neg c1) (Eq.trans (if_neg c2) (if_neg c3))))) ⟨(Nat.le_of_ble_eq_true rfl), (Nat.le_of_ble_eq_true rfl)⟩))))
theorem ct_X0_linesOf  (I : WI) (L : WL) (o : Nat) (a1 : Int32) (ho : isX0 o) : Ct x_X0_linesOf 1 [.ref o, .int a1] ly0 I L R0 0 0 (some (.int (F_X0_linesOf I o a1)), ly0, I, L, R0) :=
  Ct_of_V mo_X0_linesOf.1 (Nat.le_of_ble_eq_true rfl) (V_X0_linesOf (P := fun x => x = (F_X0_linesOf I o a1)) ho (fun _ e => by rw [e]) rfl)
def F_X0_hasLine_18 (I : WI) (o : Nat) (a1 : Int32) (a2 : Int32) (s0 : Int32) : Int32 :=
  s0
theorem V_X0_hasLine_18  {I : WI} {L : WL} {o : Nat} {a1 : Int32} {a2 : Int32} {s0 : Int32} {P : Int32 → Prop} {t : Tg} (ho : isX0 o) (hs0 : bz s0 = s0) (hr : ∀ v, P v → t = (some (.int v), ly0, I, L, R0)) (kk : P (F_X0_hasLine_18 I o a1 a2 s0)) : V (zM x_X0_hasLine 2 0 0 t) 18 [(0, .ref o), (1, .int a1), (2, .int a2)] [.int s0] ly0 I L R0 0 0 :=
  V_iret (tat ok_X0_hasLine_0 (i := 10) (q := 19) rfl rfl) _ rfl (bz_nf hs0).1 (hr s0 (jx (P := P) kk rfl)) ⟨(Nat.le_of_ble_eq_true rfl), (Nat.le_of_ble_eq_true rfl)⟩
def F_X0_hasLine_17 (I : WI) (o : Nat) (a1 : Int32) (a2 : Int32) : Int32 :=
  (F_X0_hasLine_18 I o a1 a2 0)
theorem V_X0_hasLine_17  {I : WI} {L : WL} {o : Nat} {a1 : Int32} {a2 : Int32}  {P : Int32 → Prop} {t : Tg} (ho : isX0 o) (hr : ∀ v, P v → t = (some (.int v), ly0, I, L, R0)) (kk : P (F_X0_hasLine_17 I o a1 a2)) : V (zM x_X0_hasLine 2 0 0 t) 17 [(0, .ref o), (1, .int a1), (2, .int a2)] [] ly0 I L R0 0 0 :=
  V_iconst (tat ok_X0_hasLine_0 (i := 9) (q := 18) rfl rfl) ic_0 <|
    V_X0_hasLine_18 ho rfl hr (jx (P := P) kk rfl)
def F_X0_hasLine (I : WI) (o : Nat) (a1 : Int32) (a2 : Int32) : Int32 :=
  (if a2 < 0 then (F_X0_hasLine_17 I o a1 a2) else (if (F_X0_linesOf I o a1) ≤ a2 then (F_X0_hasLine_17 I o a1 a2) else (F_X0_hasLine_18 I o a1 a2 1)))
theorem V_X0_hasLine  {I : WI} {L : WL} {o : Nat} {a1 : Int32} {a2 : Int32}  {P : Int32 → Prop} {t : Tg} (ho : isX0 o) (hr : ∀ v, P v → t = (some (.int v), ly0, I, L, R0)) (kk : P (F_X0_hasLine I o a1 a2)) : V (zM x_X0_hasLine 2 0 0 t) 0 [(0, .ref o), (1, .int a1), (2, .int a2)] [] ly0 I L R0 0 0 :=
  V_iload_n (tat ok_X0_hasLine_0 (i := 0) (q := 1) rfl rfl) 2 rfl rfl <|
    V_if_lt (tat ok_X0_hasLine_0 (i := 1) (q := 4) rfl rfl) rfl (fun c1 => V_X0_hasLine_17 ho hr (jx (P := P) kk (if_pos c1))) (fun c1 => V_iload_n (tat ok_X0_hasLine_0 (i := 2) (q := 5) rfl rfl) 2 rfl rfl <|
    V_aload_n (tat ok_X0_hasLine_0 (i := 3) (q := 6) rfl rfl) 0 rfl rfl <|
    V_iload_n (tat ok_X0_hasLine_0 (i := 4) (q := 7) rfl rfl) 1 rfl rfl <|
    V_cv1 (ct_X0_linesOf I L o a1 ho) mo_X0_linesOf (tat ok_X0_hasLine_0 (i := 5) (q := 10) rfl rfl) ml_X0_50 ho ⟨by decide, _, rfl, rfl⟩ ⟨(Nat.le_of_ble_eq_true rfl), (Nat.le_of_ble_eq_true rfl)⟩ ⟨(Nat.le_of_ble_eq_true rfl), (Nat.le_of_ble_eq_true rfl)⟩ (Nat.le_of_ble_eq_true rfl) <|
    V_icmp_ge (tat ok_X0_hasLine_0 (i := 6) (q := 13) rfl rfl) rfl (fun c2 => V_X0_hasLine_17 ho hr (jx (P := P) kk (Eq.trans (if_neg c1) (if_pos c2)))) (fun c2 => V_iconst (tat ok_X0_hasLine_0 (i := 7) (q := 14) rfl rfl) ic_1 <|
    V_goto (tat ok_X0_hasLine_0 (i := 8) (q := 17) rfl rfl) rfl <|
    V_X0_hasLine_18 ho rfl hr (jx (P := P) kk (Eq.trans (if_neg c1) (if_neg c2)))))
theorem ct_X0_hasLine  (I : WI) (L : WL) (o : Nat) (a1 : Int32) (a2 : Int32) (ho : isX0 o) : Ct x_X0_hasLine 2 [.ref o, .int a1, .int a2] ly0 I L R0 0 0 (some (.int (F_X0_hasLine I o a1 a2)), ly0, I, L, R0) :=
  Ct_of_V mo_X0_hasLine.1 (Nat.le_of_ble_eq_true rfl) (V_X0_hasLine (P := fun x => x = (F_X0_hasLine I o a1 a2)) ho (fun _ e => by rw [e]) rfl)
def F_X0_slantSquares_42_1 (I : WI) (o : Nat) (a1 : Int32) (a4 : Int32) (a2 : Int64) : Int64 :=
  a2
theorem V_X0_slantSquares_42_1  {I : WI} {L : WL} {o : Nat} {a1 : Int32} {a4 : Int32} {a2 : Int64} {P : Int64 → Prop} {t : Tg} (ho : isX0 o) (hk : ∀ x : Int64, P x → V (zM x_X0_slantSquares 2 0 0 t) 5 [(0, .ref o), (1, .int a1), (2, .long x), (4, .int (a4 + 1))] [] ly0 I L R0 0 0) (kk : P (F_X0_slantSquares_42_1 I o a1 a4 a2)) : V (zM x_X0_slantSquares 2 0 0 t) 42 [(0, .ref o), (1, .int a1), (2, .long a2), (4, .int a4)] [] ly0 I L R0 0 0 :=
  V_iinc (v := (a4 + 1)) (lv' := [(4, .int (a4 + 1)), (0, .ref o), (1, .int a1), (2, .long a2)]) (tat ok_X0_slantSquares_0 (i := 27) (q := 45) rfl rfl) 3 rfl (ia ic_1) (Nat.le_of_ble_eq_true rfl) rfl <|
    V_goto (tat ok_X0_slantSquares_0 (i := 28) (q := 48) rfl rfl) rfl <|
    V_pick [1, 2, 3, 0] rfl (hk a2 (jx (P := P) kk rfl))
def F_X0_slantSquares_14_1 (I : WI) (o : Nat) (a1 : Int32) (a4 : Int32) (a2 : Int64) : Int64 :=
  (if (F_X0_hasSquare I o a4 (a1 - a4)) = 0 then (F_X0_slantSquares_42_1 I o a1 a4 a2) else (F_X0_slantSquares_42_1 I o a1 a4 (a2 ||| (lsh 1 (((8 * a4) + a1) - a4)))))
theorem V_X0_slantSquares_14_1  {I : WI} {L : WL} {o : Nat} {a1 : Int32} {a4 : Int32} {a2 : Int64} {P : Int64 → Prop} {t : Tg} (ho : isX0 o) (hk : ∀ x : Int64, P x → V (zM x_X0_slantSquares 2 0 0 t) 5 [(0, .ref o), (1, .int a1), (2, .long x), (4, .int (a4 + 1))] [] ly0 I L R0 0 0) (kk : P (F_X0_slantSquares_14_1 I o a1 a4 a2)) : V (zM x_X0_slantSquares 2 0 0 t) 14 [(0, .ref o), (1, .int a1), (2, .long a2), (4, .int a4)] [] ly0 I L R0 0 0 :=
  V_aload_n (tat ok_X0_slantSquares_0 (i := 8) (q := 15) rfl rfl) 0 rfl rfl <|
    V_iload (tat ok_X0_slantSquares_0 (i := 9) (q := 17) rfl rfl) 3 rfl <|
    V_iload_n (tat ok_X0_slantSquares_0 (i := 10) (q := 18) rfl rfl) 1 rfl rfl <|
    V_iload (tat ok_X0_slantSquares_0 (i := 11) (q := 20) rfl rfl) 3 rfl <|
    V_isub (tat ok_X0_slantSquares_0 (i := 12) (q := 21) rfl rfl) <|
    V_cv2 (ct_X0_hasSquare I L o a4 (a1 - a4) ho) mo_X0_hasSquare (tat ok_X0_slantSquares_0 (i := 13) (q := 24) rfl rfl) ml_X0_63 ho ⟨by decide, _, rfl, rfl⟩ ⟨(Nat.le_of_ble_eq_true rfl), (Nat.le_of_ble_eq_true rfl)⟩ ⟨(Nat.le_of_ble_eq_true rfl), (Nat.le_of_ble_eq_true rfl)⟩ (Nat.le_of_ble_eq_true rfl) <|
    V_if_eq (tat ok_X0_slantSquares_0 (i := 14) (q := 27) rfl rfl) rfl (fun c1 => V_X0_slantSquares_42_1 ho hk (jx (P := P) kk (if_pos c1))) (fun c1 => V_lload_n (tat ok_X0_slantSquares_0 (i := 15) (q := 28) rfl rfl) 2 rfl rfl <|
    V_lconst (v := 1) (tat ok_X0_slantSquares_0 (i := 16) (q := 29) rfl rfl) rfl <|
    V_bipush (tat ok_X0_slantSquares_0 (i := 17) (q := 31) rfl rfl) bp_8 <|
    V_iload (tat ok_X0_slantSquares_0 (i := 18) (q := 33) rfl rfl) 3 rfl <|
    V_imul (tat ok_X0_slantSquares_0 (i := 19) (q := 34) rfl rfl) <|
    V_iload_n (tat ok_X0_slantSquares_0 (i := 20) (q := 35) rfl rfl) 1 rfl rfl <|
    V_iadd (tat ok_X0_slantSquares_0 (i := 21) (q := 36) rfl rfl) <|
    V_iload (tat ok_X0_slantSquares_0 (i := 22) (q := 38) rfl rfl) 3 rfl <|
    V_isub (tat ok_X0_slantSquares_0 (i := 23) (q := 39) rfl rfl) <|
    V_lshl (tat ok_X0_slantSquares_0 (i := 24) (q := 40) rfl rfl) <|
    V_lor (tat ok_X0_slantSquares_0 (i := 25) (q := 41) rfl rfl) <|
    V_lstore_n (lv' := [(2, .long (a2 ||| (lsh 1 (((8 * a4) + a1) - a4)))), (0, .ref o), (1, .int a1), (4, .int a4)]) (tat ok_X0_slantSquares_0 (i := 26) (q := 42) rfl rfl) rfl (Nat.le_of_ble_eq_true rfl) rfl <|
    V_pick [1, 2, 0, 3] rfl (V_X0_slantSquares_42_1 ho hk (jx (P := P) kk (if_neg c1))))
def F_X0_slantSquares_48 (I : WI) (o : Nat) (a1 : Int32) (a2 : Int64) : Int64 :=
  a2
theorem V_X0_slantSquares_48  {I : WI} {L : WL} {o : Nat} {a1 : Int32} {a2 : Int64} {P : Int64 → Prop} {t : Tg} (ho : isX0 o) (hr : ∀ v, P v → t = (some (.long v), ly0, I, L, R0)) (kk : P (F_X0_slantSquares_48 I o a1 a2)) : V (zM x_X0_slantSquares 2 0 0 t) 48 [(0, .ref o), (1, .int a1), (2, .long a2)] [] ly0 I L R0 0 0 :=
  V_lload_n (tat ok_X0_slantSquares_0 (i := 29) (q := 49) rfl rfl) 2 rfl rfl <|
    V_lret (tat ok_X0_slantSquares_0 (i := 30) (q := 50) rfl rfl) rfl (hr a2 (jx (P := P) kk rfl)) ⟨(Nat.le_of_ble_eq_true rfl), (Nat.le_of_ble_eq_true rfl)⟩
def F_X0_slantSquares_5 (I : WI) (o : Nat) (a1 : Int32) (a2 : Int64) (a4 : Int32) : Int64 :=
  (fun q : Int32 × Int64 => (F_X0_slantSquares_48 I o a1 (p2 q))) (fr0 (fun i x => (F_X0_slantSquares_14_1 I o a1 i x)) (I o 1) (fu a4 (I o 1)) a4 a2)
theorem V_X0_slantSquares_5  {I : WI} {L : WL} {o : Nat} {a1 : Int32} {a2 : Int64} {a4 : Int32} {P : Int64 → Prop} {t : Tg} (ho : isX0 o) (hb4 : bz a4 = a4) (hr : ∀ v, P v → t = (some (.long v), ly0, I, L, R0)) (kk : P (F_X0_slantSquares_5 I o a1 a2 a4)) : V (zM x_X0_slantSquares 2 0 0 t) 5 [(0, .ref o), (1, .int a1), (2, .long a2), (4, .int a4)] [] ly0 I L R0 0 0 :=
  V_fr0 (fun i x => (F_X0_slantSquares_14_1 I o a1 i x)) (I o 1) (fun i x => V (zM x_X0_slantSquares 2 0 0 t) 5 [(0, .ref o), (1, .int a1), (2, .long x), (4, .int i)] [] ly0 I L R0 0 0) (fun i x => P ((F_X0_slantSquares_48 I o a1 x))) (c := a4) (s := a2) (fun i x kx kb => V_iload (tat ok_X0_slantSquares_0 (i := 4) (q := 7) rfl rfl) 3 rfl <|
    V_aload_n (tat ok_X0_slantSquares_0 (i := 5) (q := 8) rfl rfl) 0 rfl rfl <|
    V_getI (tat ok_X0_slantSquares_0 (i := 6) (q := 11) rfl rfl) fk_X0_11 ho <|
    V_icmp_ge (tat ok_X0_slantSquares_0 (i := 7) (q := 14) rfl rfl) rfl (fun c0 => V_pick [0, 1, 2] rfl (V_X0_slantSquares_48 ho hr (kx c0))) (fun c0 => V_X0_slantSquares_14_1 (P := (fun x => (fun i x => V (zM x_X0_slantSquares 2 0 0 t) 5 [(0, .ref o), (1, .int a1), (2, .long x), (4, .int i)] [] ly0 I L R0 0 0) (i + 1) x)) ho (fun _ e => e) (kb c0))) kk
def F_X0_slantSquares (I : WI) (o : Nat) (a1 : Int32) : Int64 :=
  (F_X0_slantSquares_5 I o a1 0 0)
theorem V_X0_slantSquares  {I : WI} {L : WL} {o : Nat} {a1 : Int32}  {P : Int64 → Prop} {t : Tg} (ho : isX0 o) (hr : ∀ v, P v → t = (some (.long v), ly0, I, L, R0)) (kk : P (F_X0_slantSquares I o a1)) : V (zM x_X0_slantSquares 2 0 0 t) 0 [(0, .ref o), (1, .int a1)] [] ly0 I L R0 0 0 :=
  V_lconst (v := 0) (tat ok_X0_slantSquares_0 (i := 0) (q := 1) rfl rfl) rfl <|
    V_lstore_n (lv' := [(2, .long 0), (0, .ref o), (1, .int a1)]) (tat ok_X0_slantSquares_0 (i := 1) (q := 2) rfl rfl) rfl (Nat.le_of_ble_eq_true rfl) rfl <|
    V_iconst (tat ok_X0_slantSquares_0 (i := 2) (q := 3) rfl rfl) ic_0 <|
    V_istore (lv' := [(4, .int 0), (2, .long 0), (0, .ref o), (1, .int a1)]) (tat ok_X0_slantSquares_0 (i := 3) (q := 5) rfl rfl) (Nat.le_of_ble_eq_true rfl) rfl <|
    V_pick [2, 3, 1, 0] rfl (V_X0_slantSquares_5 ho rfl hr (jx (P := P) kk rfl))
theorem ct_X0_slantSquares  (I : WI) (L : WL) (o : Nat) (a1 : Int32) (ho : isX0 o) : Ct x_X0_slantSquares 2 [.ref o, .int a1] ly0 I L R0 0 0 (some (.long (F_X0_slantSquares I o a1)), ly0, I, L, R0) :=
  Ct_of_V mo_X0_slantSquares.1 (Nat.le_of_ble_eq_true rfl) (V_X0_slantSquares (P := fun x => x = (F_X0_slantSquares I o a1)) ho (fun _ e => by rw [e]) rfl)
def F_X0_squaresOf_44 (I : WI) (o : Nat) (a1 : Int32) (a2 : Int32) (s0 : Int64) : Int64 :=
  s0
theorem V_X0_squaresOf_44  {I : WI} {L : WL} {o : Nat} {a1 : Int32} {a2 : Int32} {s0 : Int64} {P : Int64 → Prop} {t : Tg} (ho : isX0 o) (hr : ∀ v, P v → t = (some (.long v), ly0, I, L, R0)) (kk : P (F_X0_squaresOf_44 I o a1 a2 s0)) : V (zM x_X0_squaresOf 3 0 0 t) 44 [(0, .ref o), (1, .int a1), (2, .int a2)] [.long s0] ly0 I L R0 0 0 :=
  V_lret (tat ok_X0_squaresOf_0 (i := 27) (q := 45) rfl rfl) rfl (hr s0 (jx (P := P) kk rfl)) ⟨(Nat.le_of_ble_eq_true rfl), (Nat.le_of_ble_eq_true rfl)⟩
def F_X0_squaresOf (I : WI) (o : Nat) (a1 : Int32) (a2 : Int32) : Int64 :=
  (if (F_X0_hasLine I o a1 a2) = 0 then 0 else (if a1 = 0 then (lsh (Int32.toInt64 (F_X0_everyColumn I o)) (8 * a2)) else (if a1 = 1 then (F_X0_squaresOf_44 I o a1 a2 (F_X0_columnSquares I o a2)) else (F_X0_squaresOf_44 I o a1 a2 (F_X0_slantSquares I o a2)))))
theorem V_X0_squaresOf  {I : WI} {L : WL} {o : Nat} {a1 : Int32} {a2 : Int32}  {P : Int64 → Prop} {t : Tg} (ho : isX0 o) (hr : ∀ v, P v → t = (some (.long v), ly0, I, L, R0)) (kk : P (F_X0_squaresOf I o a1 a2)) : V (zM x_X0_squaresOf 3 0 0 t) 0 [(0, .ref o), (1, .int a1), (2, .int a2)] [] ly0 I L R0 0 0 :=
  V_aload_n (tat ok_X0_squaresOf_0 (i := 0) (q := 1) rfl rfl) 0 rfl rfl <|
    V_iload_n (tat ok_X0_squaresOf_0 (i := 1) (q := 2) rfl rfl) 1 rfl rfl <|
    V_iload_n (tat ok_X0_squaresOf_0 (i := 2) (q := 3) rfl rfl) 2 rfl rfl <|
    V_cv2 (ct_X0_hasLine I L o a1 a2 ho) mo_X0_hasLine (tat ok_X0_squaresOf_0 (i := 3) (q := 6) rfl rfl) ml_X0_54 ho ⟨by decide, _, rfl, rfl⟩ ⟨(Nat.le_of_ble_eq_true rfl), (Nat.le_of_ble_eq_true rfl)⟩ ⟨(Nat.le_of_ble_eq_true rfl), (Nat.le_of_ble_eq_true rfl)⟩ (Nat.le_of_ble_eq_true rfl) <|
    V_if_ne (tat ok_X0_squaresOf_0 (i := 4) (q := 9) rfl rfl) rfl (fun c1 => V_iload_n (tat ok_X0_squaresOf_0 (i := 7) (q := 12) rfl rfl) 1 rfl rfl <|
    V_if_ne (tat ok_X0_squaresOf_0 (i := 8) (q := 15) rfl rfl) rfl (fun c2 => V_iload_n (tat ok_X0_squaresOf_0 (i := 17) (q := 27) rfl rfl) 1 rfl rfl <|
    V_iconst (tat ok_X0_squaresOf_0 (i := 18) (q := 28) rfl rfl) ic_1 <|
    V_icmp_ne (tat ok_X0_squaresOf_0 (i := 19) (q := 31) rfl rfl) rfl (fun c3 => V_aload_n (tat ok_X0_squaresOf_0 (i := 24) (q := 40) rfl rfl) 0 rfl rfl <|
    V_iload_n (tat ok_X0_squaresOf_0 (i := 25) (q := 41) rfl rfl) 2 rfl rfl <|
    V_cv1 (ct_X0_slantSquares I L o a2 ho) mo_X0_slantSquares (tat ok_X0_squaresOf_0 (i := 26) (q := 44) rfl rfl) ml_X0_58 ho ⟨by decide, _, rfl, rfl⟩ ⟨(Nat.le_of_ble_eq_true rfl), (Nat.le_of_ble_eq_true rfl)⟩ ⟨(Nat.le_of_ble_eq_true rfl), (Nat.le_of_ble_eq_true rfl)⟩ (Nat.le_of_ble_eq_true rfl) <|
    V_X0_squaresOf_44 ho hr (jx (P := P) kk (Eq.trans (if_neg c1) (Eq.trans (if_neg c2) (if_neg c3))))) (fun c3 => V_aload_n (tat ok_X0_squaresOf_0 (i := 20) (q := 32) rfl rfl) 0 rfl rfl <|
    V_iload_n (tat ok_X0_squaresOf_0 (i := 21) (q := 33) rfl rfl) 2 rfl rfl <|
    V_cv1 (ct_X0_columnSquares I L o a2 ho) mo_X0_columnSquares (tat ok_X0_squaresOf_0 (i := 22) (q := 36) rfl rfl) ml_X0_40 ho ⟨by decide, _, rfl, rfl⟩ ⟨(Nat.le_of_ble_eq_true rfl), (Nat.le_of_ble_eq_true rfl)⟩ ⟨(Nat.le_of_ble_eq_true rfl), (Nat.le_of_ble_eq_true rfl)⟩ (Nat.le_of_ble_eq_true rfl) <|
    V_goto (tat ok_X0_squaresOf_0 (i := 23) (q := 39) rfl rfl) rfl <|
    V_X0_squaresOf_44 ho hr (jx (P := P) kk (Eq.trans (if_neg c1) (Eq.trans (if_neg c2) (if_pos c3)))))) (fun c2 => V_aload_n (tat ok_X0_squaresOf_0 (i := 9) (q := 16) rfl rfl) 0 rfl rfl <|
    V_cv0 (ct_X0_everyColumn I L o ho) mo_X0_everyColumn (tat ok_X0_squaresOf_0 (i := 10) (q := 19) rfl rfl) ml_X0_36 ho ⟨by decide, _, rfl, rfl⟩ ⟨(Nat.le_of_ble_eq_true rfl), (Nat.le_of_ble_eq_true rfl)⟩ ⟨(Nat.le_of_ble_eq_true rfl), (Nat.le_of_ble_eq_true rfl)⟩ (Nat.le_of_ble_eq_true rfl) <|
    V_i2l (tat ok_X0_squaresOf_0 (i := 11) (q := 20) rfl rfl) <|
    V_bipush (tat ok_X0_squaresOf_0 (i := 12) (q := 22) rfl rfl) bp_8 <|
    V_iload_n (tat ok_X0_squaresOf_0 (i := 13) (q := 23) rfl rfl) 2 rfl rfl <|
    V_imul (tat ok_X0_squaresOf_0 (i := 14) (q := 24) rfl rfl) <|
    V_lshl (tat ok_X0_squaresOf_0 (i := 15) (q := 25) rfl rfl) <|
    V_lret (tat ok_X0_squaresOf_0 (i := 16) (q := 26) rfl rfl) rfl (hr (lsh (Int32.toInt64 (F_X0_everyColumn I o)) (8 * a2)) (jx (P := P) kk (Eq.trans (if_neg c1) (if_pos c2)))) ⟨(Nat.le_of_ble_eq_true rfl), (Nat.le_of_ble_eq_true rfl)⟩)) (fun c1 => V_lconst (v := 0) (tat ok_X0_squaresOf_0 (i := 5) (q := 10) rfl rfl) rfl <|
    V_lret (tat ok_X0_squaresOf_0 (i := 6) (q := 11) rfl rfl) rfl (hr 0 (jx (P := P) kk (if_pos c1))) ⟨(Nat.le_of_ble_eq_true rfl), (Nat.le_of_ble_eq_true rfl)⟩)
theorem ct_X0_squaresOf  (I : WI) (L : WL) (o : Nat) (a1 : Int32) (a2 : Int32) (ho : isX0 o) : Ct x_X0_squaresOf 3 [.ref o, .int a1, .int a2] ly0 I L R0 0 0 (some (.long (F_X0_squaresOf I o a1 a2)), ly0, I, L, R0) :=
  Ct_of_V mo_X0_squaresOf.1 (Nat.le_of_ble_eq_true rfl) (V_X0_squaresOf (P := fun x => x = (F_X0_squaresOf I o a1 a2)) ho (fun _ e => by rw [e]) rfl)
def F_X0_squaresTurned_40_1 (I : WI) (o : Nat) (a1 : Int32) (a2 : Int32) (a5 : Int32) (a3 : Int64) : Int64 :=
  a3
theorem V_X0_squaresTurned_40_1  {I : WI} {L : WL} {o : Nat} {a1 : Int32} {a2 : Int32} {a5 : Int32} {a3 : Int64} {P : Int64 → Prop} {t : Tg} (ho : isX0 o) (hk : ∀ x : Int64, P x → V (zM x_X0_squaresTurned 4 0 0 t) 12 [(0, .ref o), (1, .int a1), (2, .int a2), (3, .long x), (5, .int (a5 + 1))] [] ly0 I L R0 0 0) (kk : P (F_X0_squaresTurned_40_1 I o a1 a2 a5 a3)) : V (zM x_X0_squaresTurned 4 0 0 t) 40 [(0, .ref o), (1, .int a1), (2, .int a2), (3, .long a3), (5, .int a5)] [] ly0 I L R0 0 0 :=
  V_iinc (v := (a5 + 1)) (lv' := [(5, .int (a5 + 1)), (0, .ref o), (1, .int a1), (2, .int a2), (3, .long a3)]) (tat ok_X0_squaresTurned_0 (i := 26) (q := 43) rfl rfl) 4 rfl (ia ic_1) (Nat.le_of_ble_eq_true rfl) rfl <|
    V_goto (tat ok_X0_squaresTurned_0 (i := 27) (q := 46) rfl rfl) rfl <|
    V_pick [1, 2, 3, 4, 0] rfl (hk a3 (jx (P := P) kk rfl))
def F_X0_squaresTurned_21_1 (I : WI) (o : Nat) (a1 : Int32) (a2 : Int32) (a5 : Int32) (a3 : Int64) : Int64 :=
  (if ((a1 >>> (a5 &&& 31)) &&& 1) = 0 then (F_X0_squaresTurned_40_1 I o a1 a2 a5 a3) else (F_X0_squaresTurned_40_1 I o a1 a2 a5 (a3 ^^^ (F_X0_squaresOf I o 0 a5))))
theorem V_X0_squaresTurned_21_1  {I : WI} {L : WL} {o : Nat} {a1 : Int32} {a2 : Int32} {a5 : Int32} {a3 : Int64} {P : Int64 → Prop} {t : Tg} (ho : isX0 o) (hk : ∀ x : Int64, P x → V (zM x_X0_squaresTurned 4 0 0 t) 12 [(0, .ref o), (1, .int a1), (2, .int a2), (3, .long x), (5, .int (a5 + 1))] [] ly0 I L R0 0 0) (kk : P (F_X0_squaresTurned_21_1 I o a1 a2 a5 a3)) : V (zM x_X0_squaresTurned 4 0 0 t) 21 [(0, .ref o), (1, .int a1), (2, .int a2), (3, .long a3), (5, .int a5)] [] ly0 I L R0 0 0 :=
  V_iload_n (tat ok_X0_squaresTurned_0 (i := 13) (q := 22) rfl rfl) 1 rfl rfl <|
    V_iload (tat ok_X0_squaresTurned_0 (i := 14) (q := 24) rfl rfl) 4 rfl <|
    V_ishr (tat ok_X0_squaresTurned_0 (i := 15) (q := 25) rfl rfl) <|
    V_iconst (tat ok_X0_squaresTurned_0 (i := 16) (q := 26) rfl rfl) ic_1 <|
    V_iand (tat ok_X0_squaresTurned_0 (i := 17) (q := 27) rfl rfl) <|
    V_if_eq (tat ok_X0_squaresTurned_0 (i := 18) (q := 30) rfl rfl) rfl (fun c1 => V_X0_squaresTurned_40_1 ho hk (jx (P := P) kk (if_pos c1))) (fun c1 => V_lload_n (tat ok_X0_squaresTurned_0 (i := 19) (q := 31) rfl rfl) 3 rfl rfl <|
    V_aload_n (tat ok_X0_squaresTurned_0 (i := 20) (q := 32) rfl rfl) 0 rfl rfl <|
    V_iconst (tat ok_X0_squaresTurned_0 (i := 21) (q := 33) rfl rfl) ic_0 <|
    V_iload (tat ok_X0_squaresTurned_0 (i := 22) (q := 35) rfl rfl) 4 rfl <|
    V_cv2 (ct_X0_squaresOf I L o 0 a5 ho) mo_X0_squaresOf (tat ok_X0_squaresTurned_0 (i := 23) (q := 38) rfl rfl) ml_X0_66 ho ⟨by decide, _, rfl, rfl⟩ ⟨(Nat.le_of_ble_eq_true rfl), (Nat.le_of_ble_eq_true rfl)⟩ ⟨(Nat.le_of_ble_eq_true rfl), (Nat.le_of_ble_eq_true rfl)⟩ (Nat.le_of_ble_eq_true rfl) <|
    V_lxor (tat ok_X0_squaresTurned_0 (i := 24) (q := 39) rfl rfl) <|
    V_lstore_n (lv' := [(3, .long (a3 ^^^ (F_X0_squaresOf I o 0 a5))), (0, .ref o), (1, .int a1), (2, .int a2), (5, .int a5)]) (tat ok_X0_squaresTurned_0 (i := 25) (q := 40) rfl rfl) rfl (Nat.le_of_ble_eq_true rfl) rfl <|
    V_pick [1, 2, 3, 0, 4] rfl (V_X0_squaresTurned_40_1 ho hk (jx (P := P) kk (if_neg c1))))
def F_X0_squaresTurned_46 (I : WI) (o : Nat) (a1 : Int32) (a2 : Int32) (a3 : Int64) : Int64 :=
  a3
theorem V_X0_squaresTurned_46  {I : WI} {L : WL} {o : Nat} {a1 : Int32} {a2 : Int32} {a3 : Int64} {P : Int64 → Prop} {t : Tg} (ho : isX0 o) (hr : ∀ v, P v → t = (some (.long v), ly0, I, L, R0)) (kk : P (F_X0_squaresTurned_46 I o a1 a2 a3)) : V (zM x_X0_squaresTurned 4 0 0 t) 46 [(0, .ref o), (1, .int a1), (2, .int a2), (3, .long a3)] [] ly0 I L R0 0 0 :=
  V_lload_n (tat ok_X0_squaresTurned_0 (i := 28) (q := 47) rfl rfl) 3 rfl rfl <|
    V_lret (tat ok_X0_squaresTurned_0 (i := 29) (q := 48) rfl rfl) rfl (hr a3 (jx (P := P) kk rfl)) ⟨(Nat.le_of_ble_eq_true rfl), (Nat.le_of_ble_eq_true rfl)⟩
def F_X0_squaresTurned_12 (I : WI) (o : Nat) (a1 : Int32) (a2 : Int32) (a3 : Int64) (a5 : Int32) : Int64 :=
  (fun q : Int32 × Int64 => (F_X0_squaresTurned_46 I o a1 a2 (p2 q))) (fr0 (fun i x => (F_X0_squaresTurned_21_1 I o a1 a2 i x)) (I o 1) (fu a5 (I o 1)) a5 a3)
theorem V_X0_squaresTurned_12  {I : WI} {L : WL} {o : Nat} {a1 : Int32} {a2 : Int32} {a3 : Int64} {a5 : Int32} {P : Int64 → Prop} {t : Tg} (ho : isX0 o) (hb5 : bz a5 = a5) (hr : ∀ v, P v → t = (some (.long v), ly0, I, L, R0)) (kk : P (F_X0_squaresTurned_12 I o a1 a2 a3 a5)) : V (zM x_X0_squaresTurned 4 0 0 t) 12 [(0, .ref o), (1, .int a1), (2, .int a2), (3, .long a3), (5, .int a5)] [] ly0 I L R0 0 0 :=
  V_fr0 (fun i x => (F_X0_squaresTurned_21_1 I o a1 a2 i x)) (I o 1) (fun i x => V (zM x_X0_squaresTurned 4 0 0 t) 12 [(0, .ref o), (1, .int a1), (2, .int a2), (3, .long x), (5, .int i)] [] ly0 I L R0 0 0) (fun i x => P ((F_X0_squaresTurned_46 I o a1 a2 x))) (c := a5) (s := a3) (fun i x kx kb => V_iload (tat ok_X0_squaresTurned_0 (i := 9) (q := 14) rfl rfl) 4 rfl <|
    V_aload_n (tat ok_X0_squaresTurned_0 (i := 10) (q := 15) rfl rfl) 0 rfl rfl <|
    V_getI (tat ok_X0_squaresTurned_0 (i := 11) (q := 18) rfl rfl) fk_X0_11 ho <|
    V_icmp_ge (tat ok_X0_squaresTurned_0 (i := 12) (q := 21) rfl rfl) rfl (fun c0 => V_pick [0, 1, 2, 3] rfl (V_X0_squaresTurned_46 ho hr (kx c0))) (fun c0 => V_X0_squaresTurned_21_1 (P := (fun x => (fun i x => V (zM x_X0_squaresTurned 4 0 0 t) 12 [(0, .ref o), (1, .int a1), (2, .int a2), (3, .long x), (5, .int i)] [] ly0 I L R0 0 0) (i + 1) x)) ho (fun _ e => e) (kb c0))) kk
def F_X0_squaresTurned (I : WI) (o : Nat) (a1 : Int32) (a2 : Int32) : Int64 :=
  (F_X0_squaresTurned_12 I o a1 a2 ((Int32.toInt64 a2) * (F_X0_columnSquares I o 0)) 0)
theorem V_X0_squaresTurned  {I : WI} {L : WL} {o : Nat} {a1 : Int32} {a2 : Int32}  {P : Int64 → Prop} {t : Tg} (ho : isX0 o) (hr : ∀ v, P v → t = (some (.long v), ly0, I, L, R0)) (kk : P (F_X0_squaresTurned I o a1 a2)) : V (zM x_X0_squaresTurned 4 0 0 t) 0 [(0, .ref o), (1, .int a1), (2, .int a2)] [] ly0 I L R0 0 0 :=
  V_iload_n (tat ok_X0_squaresTurned_0 (i := 0) (q := 1) rfl rfl) 2 rfl rfl <|
    V_i2l (tat ok_X0_squaresTurned_0 (i := 1) (q := 2) rfl rfl) <|
    V_aload_n (tat ok_X0_squaresTurned_0 (i := 2) (q := 3) rfl rfl) 0 rfl rfl <|
    V_iconst (tat ok_X0_squaresTurned_0 (i := 3) (q := 4) rfl rfl) ic_0 <|
    V_cv1 (ct_X0_columnSquares I L o 0 ho) mo_X0_columnSquares (tat ok_X0_squaresTurned_0 (i := 4) (q := 7) rfl rfl) ml_X0_40 ho ⟨by decide, _, rfl, rfl⟩ ⟨(Nat.le_of_ble_eq_true rfl), (Nat.le_of_ble_eq_true rfl)⟩ ⟨(Nat.le_of_ble_eq_true rfl), (Nat.le_of_ble_eq_true rfl)⟩ (Nat.le_of_ble_eq_true rfl) <|
    V_lmul (tat ok_X0_squaresTurned_0 (i := 5) (q := 8) rfl rfl) <|
    V_lstore_n (lv' := [(3, .long ((Int32.toInt64 a2) * (F_X0_columnSquares I o 0))), (0, .ref o), (1, .int a1), (2, .int a2)]) (tat ok_X0_squaresTurned_0 (i := 6) (q := 9) rfl rfl) rfl (Nat.le_of_ble_eq_true rfl) rfl <|
    V_iconst (tat ok_X0_squaresTurned_0 (i := 7) (q := 10) rfl rfl) ic_0 <|
    V_istore (lv' := [(5, .int 0), (3, .long ((Int32.toInt64 a2) * (F_X0_columnSquares I o 0))), (0, .ref o), (1, .int a1), (2, .int a2)]) (tat ok_X0_squaresTurned_0 (i := 8) (q := 12) rfl rfl) (Nat.le_of_ble_eq_true rfl) rfl <|
    V_pick [2, 3, 4, 1, 0] rfl (V_X0_squaresTurned_12 ho rfl hr (jx (P := P) kk rfl))
theorem ct_X0_squaresTurned  (I : WI) (L : WL) (o : Nat) (a1 : Int32) (a2 : Int32) (ho : isX0 o) : Ct x_X0_squaresTurned 4 [.ref o, .int a1, .int a2] ly0 I L R0 0 0 (some (.long (F_X0_squaresTurned I o a1 a2)), ly0, I, L, R0) :=
  Ct_of_V mo_X0_squaresTurned.1 (Nat.le_of_ble_eq_true rfl) (V_X0_squaresTurned (P := fun x => x = (F_X0_squaresTurned I o a1 a2)) ho (fun _ e => by rw [e]) rfl)
def F_X0_columnsOfFirstRow (I : WI) (o : Nat) (a1 : Int64) : Int32 :=
  ((Int64.toInt32 a1) &&& (F_X0_everyColumn I o))
theorem V_X0_columnsOfFirstRow  {I : WI} {L : WL} {o : Nat} {a1 : Int64}  {P : Int32 → Prop} {t : Tg} (ho : isX0 o) (hr : ∀ v, P v → t = (some (.int v), ly0, I, L, R0)) (kk : P (F_X0_columnsOfFirstRow I o a1)) : V (zM x_X0_columnsOfFirstRow 2 0 0 t) 0 [(0, .ref o), (1, .long a1)] [] ly0 I L R0 0 0 :=
  V_lload_n (tat ok_X0_columnsOfFirstRow_0 (i := 0) (q := 1) rfl rfl) 1 rfl rfl <|
    V_l2i (tat ok_X0_columnsOfFirstRow_0 (i := 1) (q := 2) rfl rfl) <|
    V_aload_n (tat ok_X0_columnsOfFirstRow_0 (i := 2) (q := 3) rfl rfl) 0 rfl rfl <|
    V_cv0 (ct_X0_everyColumn I L o ho) mo_X0_everyColumn (tat ok_X0_columnsOfFirstRow_0 (i := 3) (q := 6) rfl rfl) ml_X0_36 ho ⟨by decide, _, rfl, rfl⟩ ⟨(Nat.le_of_ble_eq_true rfl), (Nat.le_of_ble_eq_true rfl)⟩ ⟨(Nat.le_of_ble_eq_true rfl), (Nat.le_of_ble_eq_true rfl)⟩ (Nat.le_of_ble_eq_true rfl) <|
    V_iand (tat ok_X0_columnsOfFirstRow_0 (i := 4) (q := 7) rfl rfl) <|
    V_iret (tat ok_X0_columnsOfFirstRow_0 (i := 5) (q := 8) rfl rfl) _ rfl (nar_int _) (hr ((Int64.toInt32 a1) &&& (F_X0_everyColumn I o)) (jx (P := P) kk rfl)) ⟨(Nat.le_of_ble_eq_true rfl), (Nat.le_of_ble_eq_true rfl)⟩
theorem ct_X0_columnsOfFirstRow  (I : WI) (L : WL) (o : Nat) (a1 : Int64) (ho : isX0 o) : Ct x_X0_columnsOfFirstRow 2 [.ref o, .long a1] ly0 I L R0 0 0 (some (.int (F_X0_columnsOfFirstRow I o a1)), ly0, I, L, R0) :=
  Ct_of_V mo_X0_columnsOfFirstRow.1 (Nat.le_of_ble_eq_true rfl) (V_X0_columnsOfFirstRow (P := fun x => x = (F_X0_columnsOfFirstRow I o a1)) ho (fun _ e => by rw [e]) rfl)
def F_X0_rowsUnlikeFirst_14_1 (I : WI) (o : Nat) (a1 : Int64) (a4 : Int32) (a3 : Int32) : Int32 :=
  (a3 ||| ((Int64.toInt32 (((lush a1 (8 * a4)) ^^^ a1) &&& 1)) <<< (a4 &&& 31)))
theorem V_X0_rowsUnlikeFirst_14_1  {I : WI} {L : WL} {o : Nat} {a1 : Int64} {a4 : Int32} {a3 : Int32} {P : Int32 → Prop} {t : Tg} (ho : isX0 o) (hk : ∀ x : Int32, P x → V (zM x_X0_rowsUnlikeFirst 1 0 0 t) 5 [(0, .ref o), (1, .long a1), (3, .int x), (4, .int (a4 + 1))] [] ly0 I L R0 0 0) (kk : P (F_X0_rowsUnlikeFirst_14_1 I o a1 a4 a3)) : V (zM x_X0_rowsUnlikeFirst 1 0 0 t) 14 [(0, .ref o), (1, .long a1), (3, .int a3), (4, .int a4)] [] ly0 I L R0 0 0 :=
  V_iload_n (tat ok_X0_rowsUnlikeFirst_0 (i := 8) (q := 15) rfl rfl) 2 rfl rfl <|
    V_lload_n (tat ok_X0_rowsUnlikeFirst_0 (i := 9) (q := 16) rfl rfl) 1 rfl rfl <|
    V_bipush (tat ok_X0_rowsUnlikeFirst_0 (i := 10) (q := 18) rfl rfl) bp_8 <|
    V_iload (tat ok_X0_rowsUnlikeFirst_0 (i := 11) (q := 20) rfl rfl) 3 rfl <|
    V_imul (tat ok_X0_rowsUnlikeFirst_0 (i := 12) (q := 21) rfl rfl) <|
    V_lushr (tat ok_X0_rowsUnlikeFirst_0 (i := 13) (q := 22) rfl rfl) <|
    V_lload_n (tat ok_X0_rowsUnlikeFirst_0 (i := 14) (q := 23) rfl rfl) 1 rfl rfl <|
    V_lxor (tat ok_X0_rowsUnlikeFirst_0 (i := 15) (q := 24) rfl rfl) <|
    V_lconst (v := 1) (tat ok_X0_rowsUnlikeFirst_0 (i := 16) (q := 25) rfl rfl) rfl <|
    V_land (tat ok_X0_rowsUnlikeFirst_0 (i := 17) (q := 26) rfl rfl) <|
    V_l2i (tat ok_X0_rowsUnlikeFirst_0 (i := 18) (q := 27) rfl rfl) <|
    V_iload (tat ok_X0_rowsUnlikeFirst_0 (i := 19) (q := 29) rfl rfl) 3 rfl <|
    V_ishl (tat ok_X0_rowsUnlikeFirst_0 (i := 20) (q := 30) rfl rfl) <|
    V_ior (tat ok_X0_rowsUnlikeFirst_0 (i := 21) (q := 31) rfl rfl) <|
    V_istore_n (lv' := [(3, .int (a3 ||| ((Int64.toInt32 (((lush a1 (8 * a4)) ^^^ a1) &&& 1)) <<< (a4 &&& 31)))), (0, .ref o), (1, .long a1), (4, .int a4)]) (tat ok_X0_rowsUnlikeFirst_0 (i := 22) (q := 32) rfl rfl) rfl (Nat.le_of_ble_eq_true rfl) rfl <|
    V_iinc (v := (a4 + 1)) (lv' := [(4, .int (a4 + 1)), (3, .int (a3 ||| ((Int64.toInt32 (((lush a1 (8 * a4)) ^^^ a1) &&& 1)) <<< (a4 &&& 31)))), (0, .ref o), (1, .long a1)]) (tat ok_X0_rowsUnlikeFirst_0 (i := 23) (q := 35) rfl rfl) 3 rfl (ia ic_1) (Nat.le_of_ble_eq_true rfl) rfl <|
    V_goto (tat ok_X0_rowsUnlikeFirst_0 (i := 24) (q := 38) rfl rfl) rfl <|
    V_pick [2, 3, 1, 0] rfl (hk (a3 ||| ((Int64.toInt32 (((lush a1 (8 * a4)) ^^^ a1) &&& 1)) <<< (a4 &&& 31))) (jx (P := P) kk rfl))
def F_X0_rowsUnlikeFirst_38 (I : WI) (o : Nat) (a1 : Int64) (a3 : Int32) : Int32 :=
  a3
theorem V_X0_rowsUnlikeFirst_38  {I : WI} {L : WL} {o : Nat} {a1 : Int64} {a3 : Int32} {P : Int32 → Prop} {t : Tg} (ho : isX0 o) (hr : ∀ v, P v → t = (some (.int v), ly0, I, L, R0)) (kk : P (F_X0_rowsUnlikeFirst_38 I o a1 a3)) : V (zM x_X0_rowsUnlikeFirst 1 0 0 t) 38 [(0, .ref o), (1, .long a1), (3, .int a3)] [] ly0 I L R0 0 0 :=
  V_iload_n (tat ok_X0_rowsUnlikeFirst_0 (i := 25) (q := 39) rfl rfl) 2 rfl rfl <|
    V_iret (tat ok_X0_rowsUnlikeFirst_0 (i := 26) (q := 40) rfl rfl) _ rfl (nar_int _) (hr a3 (jx (P := P) kk rfl)) ⟨(Nat.le_of_ble_eq_true rfl), (Nat.le_of_ble_eq_true rfl)⟩
def F_X0_rowsUnlikeFirst_5 (I : WI) (o : Nat) (a1 : Int64) (a3 : Int32) (a4 : Int32) : Int32 :=
  (fun q : Int32 × Int32 => (F_X0_rowsUnlikeFirst_38 I o a1 (p2 q))) (fr0 (fun i x => (F_X0_rowsUnlikeFirst_14_1 I o a1 i x)) (I o 1) (fu a4 (I o 1)) a4 a3)
theorem V_X0_rowsUnlikeFirst_5  {I : WI} {L : WL} {o : Nat} {a1 : Int64} {a3 : Int32} {a4 : Int32} {P : Int32 → Prop} {t : Tg} (ho : isX0 o) (hb3 : bz a3 = a3) (hb4 : bz a4 = a4) (hr : ∀ v, P v → t = (some (.int v), ly0, I, L, R0)) (kk : P (F_X0_rowsUnlikeFirst_5 I o a1 a3 a4)) : V (zM x_X0_rowsUnlikeFirst 1 0 0 t) 5 [(0, .ref o), (1, .long a1), (3, .int a3), (4, .int a4)] [] ly0 I L R0 0 0 :=
  V_fr0 (fun i x => (F_X0_rowsUnlikeFirst_14_1 I o a1 i x)) (I o 1) (fun i x => V (zM x_X0_rowsUnlikeFirst 1 0 0 t) 5 [(0, .ref o), (1, .long a1), (3, .int x), (4, .int i)] [] ly0 I L R0 0 0) (fun i x => P ((F_X0_rowsUnlikeFirst_38 I o a1 x))) (c := a4) (s := a3) (fun i x kx kb => V_iload (tat ok_X0_rowsUnlikeFirst_0 (i := 4) (q := 7) rfl rfl) 3 rfl <|
    V_aload_n (tat ok_X0_rowsUnlikeFirst_0 (i := 5) (q := 8) rfl rfl) 0 rfl rfl <|
    V_getI (tat ok_X0_rowsUnlikeFirst_0 (i := 6) (q := 11) rfl rfl) fk_X0_11 ho <|
    V_icmp_ge (tat ok_X0_rowsUnlikeFirst_0 (i := 7) (q := 14) rfl rfl) rfl (fun c0 => V_pick [0, 1, 2] rfl (V_X0_rowsUnlikeFirst_38 ho hr (kx c0))) (fun c0 => V_X0_rowsUnlikeFirst_14_1 (P := (fun x => (fun i x => V (zM x_X0_rowsUnlikeFirst 1 0 0 t) 5 [(0, .ref o), (1, .long a1), (3, .int x), (4, .int i)] [] ly0 I L R0 0 0) (i + 1) x)) ho (fun _ e => e) (kb c0))) kk
def F_X0_rowsUnlikeFirst (I : WI) (o : Nat) (a1 : Int64) : Int32 :=
  (F_X0_rowsUnlikeFirst_5 I o a1 0 1)
theorem V_X0_rowsUnlikeFirst  {I : WI} {L : WL} {o : Nat} {a1 : Int64}  {P : Int32 → Prop} {t : Tg} (ho : isX0 o) (hr : ∀ v, P v → t = (some (.int v), ly0, I, L, R0)) (kk : P (F_X0_rowsUnlikeFirst I o a1)) : V (zM x_X0_rowsUnlikeFirst 1 0 0 t) 0 [(0, .ref o), (1, .long a1)] [] ly0 I L R0 0 0 :=
  V_iconst (tat ok_X0_rowsUnlikeFirst_0 (i := 0) (q := 1) rfl rfl) ic_0 <|
    V_istore_n (lv' := [(3, .int 0), (0, .ref o), (1, .long a1)]) (tat ok_X0_rowsUnlikeFirst_0 (i := 1) (q := 2) rfl rfl) rfl (Nat.le_of_ble_eq_true rfl) rfl <|
    V_iconst (tat ok_X0_rowsUnlikeFirst_0 (i := 2) (q := 3) rfl rfl) ic_1 <|
    V_istore (lv' := [(4, .int 1), (3, .int 0), (0, .ref o), (1, .long a1)]) (tat ok_X0_rowsUnlikeFirst_0 (i := 3) (q := 5) rfl rfl) (Nat.le_of_ble_eq_true rfl) rfl <|
    V_pick [2, 3, 1, 0] rfl (V_X0_rowsUnlikeFirst_5 ho rfl rfl hr (jx (P := P) kk rfl))
theorem ct_X0_rowsUnlikeFirst  (I : WI) (L : WL) (o : Nat) (a1 : Int64) (ho : isX0 o) : Ct x_X0_rowsUnlikeFirst 1 [.ref o, .long a1] ly0 I L R0 0 0 (some (.int (F_X0_rowsUnlikeFirst I o a1)), ly0, I, L, R0) :=
  Ct_of_V mo_X0_rowsUnlikeFirst.1 (Nat.le_of_ble_eq_true rfl) (V_X0_rowsUnlikeFirst (P := fun x => x = (F_X0_rowsUnlikeFirst I o a1)) ho (fun _ e => by rw [e]) rfl)
def F_X0_formOf (I : WI) (o : Nat) (a1 : Int64) : Int64 :=
  (a1 ^^^ (F_X0_squaresTurned I o (F_X0_rowsUnlikeFirst I o a1) (F_X0_columnsOfFirstRow I o a1)))
theorem V_X0_formOf  {I : WI} {L : WL} {o : Nat} {a1 : Int64}  {P : Int64 → Prop} {t : Tg} (ho : isX0 o) (hr : ∀ v, P v → t = (some (.long v), ly0, I, L, R0)) (kk : P (F_X0_formOf I o a1)) : V (zM x_X0_formOf 5 0 0 t) 0 [(0, .ref o), (1, .long a1)] [] ly0 I L R0 0 0 :=
  V_lload_n (tat ok_X0_formOf_0 (i := 0) (q := 1) rfl rfl) 1 rfl rfl <|
    V_aload_n (tat ok_X0_formOf_0 (i := 1) (q := 2) rfl rfl) 0 rfl rfl <|
    V_aload_n (tat ok_X0_formOf_0 (i := 2) (q := 3) rfl rfl) 0 rfl rfl <|
    V_lload_n (tat ok_X0_formOf_0 (i := 3) (q := 4) rfl rfl) 1 rfl rfl <|
    V_cv1 (ct_X0_rowsUnlikeFirst I L o a1 ho) mo_X0_rowsUnlikeFirst (tat ok_X0_formOf_0 (i := 4) (q := 7) rfl rfl) ml_X0_70 ho ⟨by decide, _, rfl, rfl⟩ ⟨(Nat.le_of_ble_eq_true rfl), (Nat.le_of_ble_eq_true rfl)⟩ ⟨(Nat.le_of_ble_eq_true rfl), (Nat.le_of_ble_eq_true rfl)⟩ (Nat.le_of_ble_eq_true rfl) <|
    V_aload_n (tat ok_X0_formOf_0 (i := 5) (q := 8) rfl rfl) 0 rfl rfl <|
    V_lload_n (tat ok_X0_formOf_0 (i := 6) (q := 9) rfl rfl) 1 rfl rfl <|
    V_cv1 (ct_X0_columnsOfFirstRow I L o a1 ho) mo_X0_columnsOfFirstRow (tat ok_X0_formOf_0 (i := 7) (q := 12) rfl rfl) ml_X0_73 ho ⟨by decide, _, rfl, rfl⟩ ⟨(Nat.le_of_ble_eq_true rfl), (Nat.le_of_ble_eq_true rfl)⟩ ⟨(Nat.le_of_ble_eq_true rfl), (Nat.le_of_ble_eq_true rfl)⟩ (Nat.le_of_ble_eq_true rfl) <|
    V_cv2 (ct_X0_squaresTurned I L o (F_X0_rowsUnlikeFirst I o a1) (F_X0_columnsOfFirstRow I o a1) ho) mo_X0_squaresTurned (tat ok_X0_formOf_0 (i := 8) (q := 15) rfl rfl) ml_X0_76 ho ⟨by decide, _, rfl, rfl⟩ ⟨(Nat.le_of_ble_eq_true rfl), (Nat.le_of_ble_eq_true rfl)⟩ ⟨(Nat.le_of_ble_eq_true rfl), (Nat.le_of_ble_eq_true rfl)⟩ (Nat.le_of_ble_eq_true rfl) <|
    V_lxor (tat ok_X0_formOf_0 (i := 9) (q := 16) rfl rfl) <|
    V_lret (tat ok_X0_formOf_0 (i := 10) (q := 17) rfl rfl) rfl (hr (a1 ^^^ (F_X0_squaresTurned I o (F_X0_rowsUnlikeFirst I o a1) (F_X0_columnsOfFirstRow I o a1))) (jx (P := P) kk rfl)) ⟨(Nat.le_of_ble_eq_true rfl), (Nat.le_of_ble_eq_true rfl)⟩
theorem ct_X0_formOf  (I : WI) (L : WL) (o : Nat) (a1 : Int64) (ho : isX0 o) : Ct x_X0_formOf 5 [.ref o, .long a1] ly0 I L R0 0 0 (some (.long (F_X0_formOf I o a1)), ly0, I, L, R0) :=
  Ct_of_V mo_X0_formOf.1 (Nat.le_of_ble_eq_true rfl) (V_X0_formOf (P := fun x => x = (F_X0_formOf I o a1)) ho (fun _ e => by rw [e]) rfl)
def F_X0_mirror_24_2 (I : WI) (L : WL) (o : Nat) (a3 : Int32) (a4 : Int32) (a1 : Int64) : Int64 :=
  (a1 ||| (lsh (Int32.toInt64 (F_X0_squareAt L o a3 a4)) ((((8 * a3) + (I o 2)) - 1) - a4)))
theorem V_X0_mirror_24_2  {I : WI} {L : WL} {o : Nat} {a3 : Int32} {a4 : Int32} {a1 : Int64} {P : Int64 → Prop} {t : Tg} (ho : isX0 o) (hk : ∀ x : Int64, P x → V (zM x_X0_mirror 2 0 0 t) 15 [(0, .ref o), (1, .long x), (3, .int a3), (4, .int (a4 + 1))] [] ly0 I L R0 0 0) (kk : P (F_X0_mirror_24_2 I L o a3 a4 a1)) : V (zM x_X0_mirror 2 0 0 t) 24 [(0, .ref o), (1, .long a1), (3, .int a3), (4, .int a4)] [] ly0 I L R0 0 0 :=
  V_lload_n (tat ok_X0_mirror_0 (i := 14) (q := 25) rfl rfl) 1 rfl rfl <|
    V_aload_n (tat ok_X0_mirror_0 (i := 15) (q := 26) rfl rfl) 0 rfl rfl <|
    V_iload_n (tat ok_X0_mirror_0 (i := 16) (q := 27) rfl rfl) 2 rfl rfl <|
    V_iload (tat ok_X0_mirror_0 (i := 17) (q := 29) rfl rfl) 3 rfl <|
    V_cv2 (ct_X0_squareAt I L o a3 a4 ho) mo_X0_squareAt (tat ok_X0_mirror_0 (i := 18) (q := 32) rfl rfl) ml_X0_44 ho ⟨by decide, _, rfl, rfl⟩ ⟨(Nat.le_of_ble_eq_true rfl), (Nat.le_of_ble_eq_true rfl)⟩ ⟨(Nat.le_of_ble_eq_true rfl), (Nat.le_of_ble_eq_true rfl)⟩ (Nat.le_of_ble_eq_true rfl) <|
    V_i2l (tat ok_X0_mirror_0 (i := 19) (q := 33) rfl rfl) <|
    V_bipush (tat ok_X0_mirror_0 (i := 20) (q := 35) rfl rfl) bp_8 <|
    V_iload_n (tat ok_X0_mirror_0 (i := 21) (q := 36) rfl rfl) 2 rfl rfl <|
    V_imul (tat ok_X0_mirror_0 (i := 22) (q := 37) rfl rfl) <|
    V_aload_n (tat ok_X0_mirror_0 (i := 23) (q := 38) rfl rfl) 0 rfl rfl <|
    V_getI (tat ok_X0_mirror_0 (i := 24) (q := 41) rfl rfl) fk_X0_15 ho <|
    V_iadd (tat ok_X0_mirror_0 (i := 25) (q := 42) rfl rfl) <|
    V_iconst (tat ok_X0_mirror_0 (i := 26) (q := 43) rfl rfl) ic_1 <|
    V_isub (tat ok_X0_mirror_0 (i := 27) (q := 44) rfl rfl) <|
    V_iload (tat ok_X0_mirror_0 (i := 28) (q := 46) rfl rfl) 3 rfl <|
    V_isub (tat ok_X0_mirror_0 (i := 29) (q := 47) rfl rfl) <|
    V_lshl (tat ok_X0_mirror_0 (i := 30) (q := 48) rfl rfl) <|
    V_lor (tat ok_X0_mirror_0 (i := 31) (q := 49) rfl rfl) <|
    V_lstore_n (lv' := [(1, .long (a1 ||| (lsh (Int32.toInt64 (F_X0_squareAt L o a3 a4)) ((((8 * a3) + (I o 2)) - 1) - a4)))), (0, .ref o), (3, .int a3), (4, .int a4)]) (tat ok_X0_mirror_0 (i := 32) (q := 50) rfl rfl) rfl (Nat.le_of_ble_eq_true rfl) rfl <|
    V_iinc (v := (a4 + 1)) (lv' := [(4, .int (a4 + 1)), (1, .long (a1 ||| (lsh (Int32.toInt64 (F_X0_squareAt L o a3 a4)) ((((8 * a3) + (I o 2)) - 1) - a4)))), (0, .ref o), (3, .int a3)]) (tat ok_X0_mirror_0 (i := 33) (q := 53) rfl rfl) 3 rfl (ia ic_1) (Nat.le_of_ble_eq_true rfl) rfl <|
    V_goto (tat ok_X0_mirror_0 (i := 34) (q := 56) rfl rfl) rfl <|
    V_pick [2, 1, 3, 0] rfl (hk (a1 ||| (lsh (Int32.toInt64 (F_X0_squareAt L o a3 a4)) ((((8 * a3) + (I o 2)) - 1) - a4))) (jx (P := P) kk rfl))
def F_X0_mirror_56_1 (I : WI) (L : WL) (o : Nat) (a3 : Int32) (a1 : Int64) : Int64 :=
  a1
theorem V_X0_mirror_56_1  {I : WI} {L : WL} {o : Nat} {a3 : Int32} {a1 : Int64} {P : Int64 → Prop} {t : Tg} (ho : isX0 o) (hk : ∀ x : Int64, P x → V (zM x_X0_mirror 2 0 0 t) 4 [(0, .ref o), (1, .long x), (3, .int (a3 + 1))] [] ly0 I L R0 0 0) (kk : P (F_X0_mirror_56_1 I L o a3 a1)) : V (zM x_X0_mirror 2 0 0 t) 56 [(0, .ref o), (1, .long a1), (3, .int a3)] [] ly0 I L R0 0 0 :=
  V_iinc (v := (a3 + 1)) (lv' := [(3, .int (a3 + 1)), (0, .ref o), (1, .long a1)]) (tat ok_X0_mirror_0 (i := 35) (q := 59) rfl rfl) 2 rfl (ia ic_1) (Nat.le_of_ble_eq_true rfl) rfl <|
    V_goto (tat ok_X0_mirror_0 (i := 36) (q := 62) rfl rfl) rfl <|
    V_pick [1, 2, 0] rfl (hk a1 (jx (P := P) kk rfl))
def F_X0_mirror_15_1 (I : WI) (L : WL) (o : Nat) (a3 : Int32) (a1 : Int64) (a4 : Int32) : Int64 :=
  (fun q : Int32 × Int64 => (F_X0_mirror_56_1 I L o a3 (p2 q))) (fr0 (fun i x => (F_X0_mirror_24_2 I L o a3 i x)) (I o 2) (fu a4 (I o 2)) a4 a1)
theorem V_X0_mirror_15_1  {I : WI} {L : WL} {o : Nat} {a3 : Int32} {a1 : Int64} {a4 : Int32} {P : Int64 → Prop} {t : Tg} (ho : isX0 o) (hb4 : bz a4 = a4) (hk : ∀ x : Int64, P x → V (zM x_X0_mirror 2 0 0 t) 4 [(0, .ref o), (1, .long x), (3, .int (a3 + 1))] [] ly0 I L R0 0 0) (kk : P (F_X0_mirror_15_1 I L o a3 a1 a4)) : V (zM x_X0_mirror 2 0 0 t) 15 [(0, .ref o), (1, .long a1), (3, .int a3), (4, .int a4)] [] ly0 I L R0 0 0 :=
  V_fr0 (fun i x => (F_X0_mirror_24_2 I L o a3 i x)) (I o 2) (fun i x => V (zM x_X0_mirror 2 0 0 t) 15 [(0, .ref o), (1, .long x), (3, .int a3), (4, .int i)] [] ly0 I L R0 0 0) (fun i x => P ((F_X0_mirror_56_1 I L o a3 x))) (c := a4) (s := a1) (fun i x kx kb => V_iload (tat ok_X0_mirror_0 (i := 10) (q := 17) rfl rfl) 3 rfl <|
    V_aload_n (tat ok_X0_mirror_0 (i := 11) (q := 18) rfl rfl) 0 rfl rfl <|
    V_getI (tat ok_X0_mirror_0 (i := 12) (q := 21) rfl rfl) fk_X0_15 ho <|
    V_icmp_ge (tat ok_X0_mirror_0 (i := 13) (q := 24) rfl rfl) rfl (fun c0 => V_pick [0, 1, 2] rfl (V_X0_mirror_56_1 ho hk (kx c0))) (fun c0 => V_X0_mirror_24_2 (P := (fun x => (fun i x => V (zM x_X0_mirror 2 0 0 t) 15 [(0, .ref o), (1, .long x), (3, .int a3), (4, .int i)] [] ly0 I L R0 0 0) (i + 1) x)) ho (fun _ e => e) (kb c0))) kk
def F_X0_mirror_12_1 (I : WI) (L : WL) (o : Nat) (a3 : Int32) (a1 : Int64) : Int64 :=
  (F_X0_mirror_15_1 I L o a3 a1 0)
theorem V_X0_mirror_12_1  {I : WI} {L : WL} {o : Nat} {a3 : Int32} {a1 : Int64} {P : Int64 → Prop} {t : Tg} (ho : isX0 o) (hk : ∀ x : Int64, P x → V (zM x_X0_mirror 2 0 0 t) 4 [(0, .ref o), (1, .long x), (3, .int (a3 + 1))] [] ly0 I L R0 0 0) (kk : P (F_X0_mirror_12_1 I L o a3 a1)) : V (zM x_X0_mirror 2 0 0 t) 12 [(0, .ref o), (1, .long a1), (3, .int a3)] [] ly0 I L R0 0 0 :=
  V_iconst (tat ok_X0_mirror_0 (i := 8) (q := 13) rfl rfl) ic_0 <|
    V_istore (lv' := [(4, .int 0), (0, .ref o), (1, .long a1), (3, .int a3)]) (tat ok_X0_mirror_0 (i := 9) (q := 15) rfl rfl) (Nat.le_of_ble_eq_true rfl) rfl <|
    V_pick [1, 2, 3, 0] rfl (V_X0_mirror_15_1 ho rfl hk (jx (P := P) kk rfl))
def F_X0_mirror_62 (I : WI) (L : WL) (o : Nat) (a1 : Int64) : WL :=
  (u2 L o 3 a1)
theorem V_X0_mirror_62  {I : WI} {L : WL} {o : Nat} {a1 : Int64} {P : WL → Prop} {t : Tg} (ho : isX0 o) (hr : ∀ v, P v → t = (none, ly0, I, v, R0)) (kk : P (F_X0_mirror_62 I L o a1)) : V (zM x_X0_mirror 2 0 0 t) 62 [(0, .ref o), (1, .long a1)] [] ly0 I L R0 0 0 :=
  V_aload_n (tat ok_X0_mirror_0 (i := 37) (q := 63) rfl rfl) 0 rfl rfl <|
    V_lload_n (tat ok_X0_mirror_0 (i := 38) (q := 64) rfl rfl) 1 rfl rfl <|
    V_putL (tat ok_X0_mirror_0 (i := 39) (q := 67) rfl rfl) fk_X0_22 ho rfl <|
    V_vret (tat ok_X0_mirror_1 (i := 0) (q := 68) rfl rfl) rfl (hr (u2 L o 3 a1) (jx (P := P) kk rfl)) ⟨(Nat.le_of_ble_eq_true rfl), (Nat.le_of_ble_eq_true rfl)⟩
def F_X0_mirror_4 (I : WI) (L : WL) (o : Nat) (a1 : Int64) (a3 : Int32) : WL :=
  (fun q : Int32 × Int64 => (F_X0_mirror_62 I L o (p2 q))) (fr0 (fun i x => (F_X0_mirror_12_1 I L o i x)) (I o 1) (fu a3 (I o 1)) a3 a1)
theorem V_X0_mirror_4  {I : WI} {L : WL} {o : Nat} {a1 : Int64} {a3 : Int32} {P : WL → Prop} {t : Tg} (ho : isX0 o) (hb3 : bz a3 = a3) (hr : ∀ v, P v → t = (none, ly0, I, v, R0)) (kk : P (F_X0_mirror_4 I L o a1 a3)) : V (zM x_X0_mirror 2 0 0 t) 4 [(0, .ref o), (1, .long a1), (3, .int a3)] [] ly0 I L R0 0 0 :=
  V_fr0 (fun i x => (F_X0_mirror_12_1 I L o i x)) (I o 1) (fun i x => V (zM x_X0_mirror 2 0 0 t) 4 [(0, .ref o), (1, .long x), (3, .int i)] [] ly0 I L R0 0 0) (fun i x => P ((F_X0_mirror_62 I L o x))) (c := a3) (s := a1) (fun i x kx kb => V_iload_n (tat ok_X0_mirror_0 (i := 4) (q := 5) rfl rfl) 2 rfl rfl <|
    V_aload_n (tat ok_X0_mirror_0 (i := 5) (q := 6) rfl rfl) 0 rfl rfl <|
    V_getI (tat ok_X0_mirror_0 (i := 6) (q := 9) rfl rfl) fk_X0_11 ho <|
    V_icmp_ge (tat ok_X0_mirror_0 (i := 7) (q := 12) rfl rfl) rfl (fun c0 => V_pick [0, 1] rfl (V_X0_mirror_62 ho hr (kx c0))) (fun c0 => V_X0_mirror_12_1 (P := (fun x => (fun i x => V (zM x_X0_mirror 2 0 0 t) 4 [(0, .ref o), (1, .long x), (3, .int i)] [] ly0 I L R0 0 0) (i + 1) x)) ho (fun _ e => e) (kb c0))) kk
def F_X0_mirror (I : WI) (L : WL) (o : Nat) : WL :=
  (F_X0_mirror_4 I L o 0 0)
theorem V_X0_mirror  {I : WI} {L : WL} {o : Nat}  {P : WL → Prop} {t : Tg} (ho : isX0 o) (hr : ∀ v, P v → t = (none, ly0, I, v, R0)) (kk : P (F_X0_mirror I L o)) : V (zM x_X0_mirror 2 0 0 t) 0 [(0, .ref o)] [] ly0 I L R0 0 0 :=
  V_lconst (v := 0) (tat ok_X0_mirror_0 (i := 0) (q := 1) rfl rfl) rfl <|
    V_lstore_n (lv' := [(1, .long 0), (0, .ref o)]) (tat ok_X0_mirror_0 (i := 1) (q := 2) rfl rfl) rfl (Nat.le_of_ble_eq_true rfl) rfl <|
    V_iconst (tat ok_X0_mirror_0 (i := 2) (q := 3) rfl rfl) ic_0 <|
    V_istore_n (lv' := [(3, .int 0), (1, .long 0), (0, .ref o)]) (tat ok_X0_mirror_0 (i := 3) (q := 4) rfl rfl) rfl (Nat.le_of_ble_eq_true rfl) rfl <|
    V_pick [2, 1, 0] rfl (V_X0_mirror_4 ho rfl hr (jx (P := P) kk rfl))
theorem ct_X0_mirror  (I : WI) (L : WL) (o : Nat) (ho : isX0 o) : Ct x_X0_mirror 2 [.ref o] ly0 I L R0 0 0 (none, ly0, I, (F_X0_mirror I L o), R0) :=
  Ct_of_V mo_X0_mirror.1 (Nat.le_of_ble_eq_true rfl) (V_X0_mirror (P := fun x => x = (F_X0_mirror I L o)) ho (fun _ e => by rw [e]) rfl)
def F_X0_quarterRight_24_2 (I : WI) (L : WL) (o : Nat) (a3 : Int32) (a4 : Int32) (a1 : Int64) : Int64 :=
  (a1 ||| (lsh (Int32.toInt64 (F_X0_squareAt L o a3 a4)) ((((8 * a4) + (I o 1)) - 1) - a3)))
theorem V_X0_quarterRight_24_2  {I : WI} {L : WL} {o : Nat} {a3 : Int32} {a4 : Int32} {a1 : Int64} {P : Int64 → Prop} {t : Tg} (ho : isX0 o) (hk : ∀ x : Int64, P x → V (zM x_X0_quarterRight 2 0 0 t) 15 [(0, .ref o), (1, .long x), (3, .int a3), (4, .int (a4 + 1))] [] ly0 I L R0 0 0) (kk : P (F_X0_quarterRight_24_2 I L o a3 a4 a1)) : V (zM x_X0_quarterRight 2 0 0 t) 24 [(0, .ref o), (1, .long a1), (3, .int a3), (4, .int a4)] [] ly0 I L R0 0 0 :=
  V_lload_n (tat ok_X0_quarterRight_0 (i := 14) (q := 25) rfl rfl) 1 rfl rfl <|
    V_aload_n (tat ok_X0_quarterRight_0 (i := 15) (q := 26) rfl rfl) 0 rfl rfl <|
    V_iload_n (tat ok_X0_quarterRight_0 (i := 16) (q := 27) rfl rfl) 2 rfl rfl <|
    V_iload (tat ok_X0_quarterRight_0 (i := 17) (q := 29) rfl rfl) 3 rfl <|
    V_cv2 (ct_X0_squareAt I L o a3 a4 ho) mo_X0_squareAt (tat ok_X0_quarterRight_0 (i := 18) (q := 32) rfl rfl) ml_X0_44 ho ⟨by decide, _, rfl, rfl⟩ ⟨(Nat.le_of_ble_eq_true rfl), (Nat.le_of_ble_eq_true rfl)⟩ ⟨(Nat.le_of_ble_eq_true rfl), (Nat.le_of_ble_eq_true rfl)⟩ (Nat.le_of_ble_eq_true rfl) <|
    V_i2l (tat ok_X0_quarterRight_0 (i := 19) (q := 33) rfl rfl) <|
    V_bipush (tat ok_X0_quarterRight_0 (i := 20) (q := 35) rfl rfl) bp_8 <|
    V_iload (tat ok_X0_quarterRight_0 (i := 21) (q := 37) rfl rfl) 3 rfl <|
    V_imul (tat ok_X0_quarterRight_0 (i := 22) (q := 38) rfl rfl) <|
    V_aload_n (tat ok_X0_quarterRight_0 (i := 23) (q := 39) rfl rfl) 0 rfl rfl <|
    V_getI (tat ok_X0_quarterRight_0 (i := 24) (q := 42) rfl rfl) fk_X0_11 ho <|
    V_iadd (tat ok_X0_quarterRight_0 (i := 25) (q := 43) rfl rfl) <|
    V_iconst (tat ok_X0_quarterRight_0 (i := 26) (q := 44) rfl rfl) ic_1 <|
    V_isub (tat ok_X0_quarterRight_0 (i := 27) (q := 45) rfl rfl) <|
    V_iload_n (tat ok_X0_quarterRight_0 (i := 28) (q := 46) rfl rfl) 2 rfl rfl <|
    V_isub (tat ok_X0_quarterRight_0 (i := 29) (q := 47) rfl rfl) <|
    V_lshl (tat ok_X0_quarterRight_0 (i := 30) (q := 48) rfl rfl) <|
    V_lor (tat ok_X0_quarterRight_0 (i := 31) (q := 49) rfl rfl) <|
    V_lstore_n (lv' := [(1, .long (a1 ||| (lsh (Int32.toInt64 (F_X0_squareAt L o a3 a4)) ((((8 * a4) + (I o 1)) - 1) - a3)))), (0, .ref o), (3, .int a3), (4, .int a4)]) (tat ok_X0_quarterRight_0 (i := 32) (q := 50) rfl rfl) rfl (Nat.le_of_ble_eq_true rfl) rfl <|
    V_iinc (v := (a4 + 1)) (lv' := [(4, .int (a4 + 1)), (1, .long (a1 ||| (lsh (Int32.toInt64 (F_X0_squareAt L o a3 a4)) ((((8 * a4) + (I o 1)) - 1) - a3)))), (0, .ref o), (3, .int a3)]) (tat ok_X0_quarterRight_0 (i := 33) (q := 53) rfl rfl) 3 rfl (ia ic_1) (Nat.le_of_ble_eq_true rfl) rfl <|
    V_goto (tat ok_X0_quarterRight_0 (i := 34) (q := 56) rfl rfl) rfl <|
    V_pick [2, 1, 3, 0] rfl (hk (a1 ||| (lsh (Int32.toInt64 (F_X0_squareAt L o a3 a4)) ((((8 * a4) + (I o 1)) - 1) - a3))) (jx (P := P) kk rfl))
def F_X0_quarterRight_56_1 (I : WI) (L : WL) (o : Nat) (a3 : Int32) (a1 : Int64) : Int64 :=
  a1
theorem V_X0_quarterRight_56_1  {I : WI} {L : WL} {o : Nat} {a3 : Int32} {a1 : Int64} {P : Int64 → Prop} {t : Tg} (ho : isX0 o) (hk : ∀ x : Int64, P x → V (zM x_X0_quarterRight 2 0 0 t) 4 [(0, .ref o), (1, .long x), (3, .int (a3 + 1))] [] ly0 I L R0 0 0) (kk : P (F_X0_quarterRight_56_1 I L o a3 a1)) : V (zM x_X0_quarterRight 2 0 0 t) 56 [(0, .ref o), (1, .long a1), (3, .int a3)] [] ly0 I L R0 0 0 :=
  V_iinc (v := (a3 + 1)) (lv' := [(3, .int (a3 + 1)), (0, .ref o), (1, .long a1)]) (tat ok_X0_quarterRight_0 (i := 35) (q := 59) rfl rfl) 2 rfl (ia ic_1) (Nat.le_of_ble_eq_true rfl) rfl <|
    V_goto (tat ok_X0_quarterRight_0 (i := 36) (q := 62) rfl rfl) rfl <|
    V_pick [1, 2, 0] rfl (hk a1 (jx (P := P) kk rfl))
def F_X0_quarterRight_15_1 (I : WI) (L : WL) (o : Nat) (a3 : Int32) (a1 : Int64) (a4 : Int32) : Int64 :=
  (fun q : Int32 × Int64 => (F_X0_quarterRight_56_1 I L o a3 (p2 q))) (fr0 (fun i x => (F_X0_quarterRight_24_2 I L o a3 i x)) (I o 2) (fu a4 (I o 2)) a4 a1)
theorem V_X0_quarterRight_15_1  {I : WI} {L : WL} {o : Nat} {a3 : Int32} {a1 : Int64} {a4 : Int32} {P : Int64 → Prop} {t : Tg} (ho : isX0 o) (hb4 : bz a4 = a4) (hk : ∀ x : Int64, P x → V (zM x_X0_quarterRight 2 0 0 t) 4 [(0, .ref o), (1, .long x), (3, .int (a3 + 1))] [] ly0 I L R0 0 0) (kk : P (F_X0_quarterRight_15_1 I L o a3 a1 a4)) : V (zM x_X0_quarterRight 2 0 0 t) 15 [(0, .ref o), (1, .long a1), (3, .int a3), (4, .int a4)] [] ly0 I L R0 0 0 :=
  V_fr0 (fun i x => (F_X0_quarterRight_24_2 I L o a3 i x)) (I o 2) (fun i x => V (zM x_X0_quarterRight 2 0 0 t) 15 [(0, .ref o), (1, .long x), (3, .int a3), (4, .int i)] [] ly0 I L R0 0 0) (fun i x => P ((F_X0_quarterRight_56_1 I L o a3 x))) (c := a4) (s := a1) (fun i x kx kb => V_iload (tat ok_X0_quarterRight_0 (i := 10) (q := 17) rfl rfl) 3 rfl <|
    V_aload_n (tat ok_X0_quarterRight_0 (i := 11) (q := 18) rfl rfl) 0 rfl rfl <|
    V_getI (tat ok_X0_quarterRight_0 (i := 12) (q := 21) rfl rfl) fk_X0_15 ho <|
    V_icmp_ge (tat ok_X0_quarterRight_0 (i := 13) (q := 24) rfl rfl) rfl (fun c0 => V_pick [0, 1, 2] rfl (V_X0_quarterRight_56_1 ho hk (kx c0))) (fun c0 => V_X0_quarterRight_24_2 (P := (fun x => (fun i x => V (zM x_X0_quarterRight 2 0 0 t) 15 [(0, .ref o), (1, .long x), (3, .int a3), (4, .int i)] [] ly0 I L R0 0 0) (i + 1) x)) ho (fun _ e => e) (kb c0))) kk
def F_X0_quarterRight_12_1 (I : WI) (L : WL) (o : Nat) (a3 : Int32) (a1 : Int64) : Int64 :=
  (F_X0_quarterRight_15_1 I L o a3 a1 0)
theorem V_X0_quarterRight_12_1  {I : WI} {L : WL} {o : Nat} {a3 : Int32} {a1 : Int64} {P : Int64 → Prop} {t : Tg} (ho : isX0 o) (hk : ∀ x : Int64, P x → V (zM x_X0_quarterRight 2 0 0 t) 4 [(0, .ref o), (1, .long x), (3, .int (a3 + 1))] [] ly0 I L R0 0 0) (kk : P (F_X0_quarterRight_12_1 I L o a3 a1)) : V (zM x_X0_quarterRight 2 0 0 t) 12 [(0, .ref o), (1, .long a1), (3, .int a3)] [] ly0 I L R0 0 0 :=
  V_iconst (tat ok_X0_quarterRight_0 (i := 8) (q := 13) rfl rfl) ic_0 <|
    V_istore (lv' := [(4, .int 0), (0, .ref o), (1, .long a1), (3, .int a3)]) (tat ok_X0_quarterRight_0 (i := 9) (q := 15) rfl rfl) (Nat.le_of_ble_eq_true rfl) rfl <|
    V_pick [1, 2, 3, 0] rfl (V_X0_quarterRight_15_1 ho rfl hk (jx (P := P) kk rfl))
def F_X0_quarterRight_62 (I : WI) (L : WL) (o : Nat) (a1 : Int64) : (WI × WL) :=
  ((u2 (u2 I o 1 (I o 2)) o 2 (I o 1)), (u2 L o 3 a1))
theorem V_X0_quarterRight_62  {I : WI} {L : WL} {o : Nat} {a1 : Int64} {P : (WI × WL) → Prop} {t : Tg} (ho : isX0 o) (hr : ∀ v, P v → t = (none, ly0, (p1 v), (p2 v), R0)) (kk : P (F_X0_quarterRight_62 I L o a1)) : V (zM x_X0_quarterRight 2 0 0 t) 62 [(0, .ref o), (1, .long a1)] [] ly0 I L R0 0 0 :=
  V_aload_n (tat ok_X0_quarterRight_0 (i := 37) (q := 63) rfl rfl) 0 rfl rfl <|
    V_getI (tat ok_X0_quarterRight_0 (i := 38) (q := 66) rfl rfl) fk_X0_11 ho <|
    V_istore_n (lv' := [(3, .int (I o 1)), (0, .ref o), (1, .long a1)]) (tat ok_X0_quarterRight_0 (i := 39) (q := 67) rfl rfl) rfl (Nat.le_of_ble_eq_true rfl) rfl <|
    V_aload_n (tat ok_X0_quarterRight_1 (i := 0) (q := 68) rfl rfl) 1 rfl rfl <|
    V_aload_n (tat ok_X0_quarterRight_1 (i := 1) (q := 69) rfl rfl) 1 rfl rfl <|
    V_getI (tat ok_X0_quarterRight_1 (i := 2) (q := 72) rfl rfl) fk_X0_15 ho <|
    V_putI (tat ok_X0_quarterRight_1 (i := 3) (q := 75) rfl rfl) fk_X0_11 ho rfl <|
    V_aload_n (tat ok_X0_quarterRight_1 (i := 4) (q := 76) rfl rfl) 1 rfl rfl <|
    V_iload_n (tat ok_X0_quarterRight_1 (i := 5) (q := 77) rfl rfl) 0 rfl rfl <|
    V_putI (tat ok_X0_quarterRight_1 (i := 6) (q := 80) rfl rfl) fk_X0_15 ho rfl <|
    V_aload_n (tat ok_X0_quarterRight_1 (i := 7) (q := 81) rfl rfl) 1 rfl rfl <|
    V_lload_n (tat ok_X0_quarterRight_1 (i := 8) (q := 82) rfl rfl) 2 rfl rfl <|
    V_putL (tat ok_X0_quarterRight_1 (i := 9) (q := 85) rfl rfl) fk_X0_22 ho rfl <|
    V_vret (tat ok_X0_quarterRight_1 (i := 10) (q := 86) rfl rfl) rfl (hr ((u2 (u2 I o 1 (I o 2)) o 2 (I o 1)), (u2 L o 3 a1)) (jx (P := P) kk rfl)) ⟨(Nat.le_of_ble_eq_true rfl), (Nat.le_of_ble_eq_true rfl)⟩
def F_X0_quarterRight_4 (I : WI) (L : WL) (o : Nat) (a1 : Int64) (a3 : Int32) : (WI × WL) :=
  (fun q : Int32 × Int64 => (F_X0_quarterRight_62 I L o (p2 q))) (fr0 (fun i x => (F_X0_quarterRight_12_1 I L o i x)) (I o 1) (fu a3 (I o 1)) a3 a1)
theorem V_X0_quarterRight_4  {I : WI} {L : WL} {o : Nat} {a1 : Int64} {a3 : Int32} {P : (WI × WL) → Prop} {t : Tg} (ho : isX0 o) (hb3 : bz a3 = a3) (hr : ∀ v, P v → t = (none, ly0, (p1 v), (p2 v), R0)) (kk : P (F_X0_quarterRight_4 I L o a1 a3)) : V (zM x_X0_quarterRight 2 0 0 t) 4 [(0, .ref o), (1, .long a1), (3, .int a3)] [] ly0 I L R0 0 0 :=
  V_fr0 (fun i x => (F_X0_quarterRight_12_1 I L o i x)) (I o 1) (fun i x => V (zM x_X0_quarterRight 2 0 0 t) 4 [(0, .ref o), (1, .long x), (3, .int i)] [] ly0 I L R0 0 0) (fun i x => P ((F_X0_quarterRight_62 I L o x))) (c := a3) (s := a1) (fun i x kx kb => V_iload_n (tat ok_X0_quarterRight_0 (i := 4) (q := 5) rfl rfl) 2 rfl rfl <|
    V_aload_n (tat ok_X0_quarterRight_0 (i := 5) (q := 6) rfl rfl) 0 rfl rfl <|
    V_getI (tat ok_X0_quarterRight_0 (i := 6) (q := 9) rfl rfl) fk_X0_11 ho <|
    V_icmp_ge (tat ok_X0_quarterRight_0 (i := 7) (q := 12) rfl rfl) rfl (fun c0 => V_pick [0, 1] rfl (V_X0_quarterRight_62 ho hr (kx c0))) (fun c0 => V_X0_quarterRight_12_1 (P := (fun x => (fun i x => V (zM x_X0_quarterRight 2 0 0 t) 4 [(0, .ref o), (1, .long x), (3, .int i)] [] ly0 I L R0 0 0) (i + 1) x)) ho (fun _ e => e) (kb c0))) kk
def F_X0_quarterRight (I : WI) (L : WL) (o : Nat) : (WI × WL) :=
  (F_X0_quarterRight_4 I L o 0 0)
theorem V_X0_quarterRight  {I : WI} {L : WL} {o : Nat}  {P : (WI × WL) → Prop} {t : Tg} (ho : isX0 o) (hr : ∀ v, P v → t = (none, ly0, (p1 v), (p2 v), R0)) (kk : P (F_X0_quarterRight I L o)) : V (zM x_X0_quarterRight 2 0 0 t) 0 [(0, .ref o)] [] ly0 I L R0 0 0 :=
  V_lconst (v := 0) (tat ok_X0_quarterRight_0 (i := 0) (q := 1) rfl rfl) rfl <|
    V_lstore_n (lv' := [(1, .long 0), (0, .ref o)]) (tat ok_X0_quarterRight_0 (i := 1) (q := 2) rfl rfl) rfl (Nat.le_of_ble_eq_true rfl) rfl <|
    V_iconst (tat ok_X0_quarterRight_0 (i := 2) (q := 3) rfl rfl) ic_0 <|
    V_istore_n (lv' := [(3, .int 0), (1, .long 0), (0, .ref o)]) (tat ok_X0_quarterRight_0 (i := 3) (q := 4) rfl rfl) rfl (Nat.le_of_ble_eq_true rfl) rfl <|
    V_pick [2, 1, 0] rfl (V_X0_quarterRight_4 ho rfl hr (jx (P := P) kk rfl))
theorem ct_X0_quarterRight  (I : WI) (L : WL) (o : Nat) (ho : isX0 o) : Ct x_X0_quarterRight 2 [.ref o] ly0 I L R0 0 0 (none, ly0, (p1 (F_X0_quarterRight I L o)), (p2 (F_X0_quarterRight I L o)), R0) :=
  Ct_of_V mo_X0_quarterRight.1 (Nat.le_of_ble_eq_true rfl) (V_X0_quarterRight (P := fun x => x = (F_X0_quarterRight I L o)) ho (fun _ e => by rw [e]) rfl)
def F_X0_rotateBy_18_1 (I : WI) (L : WL) (o : Nat) (a1 : Int32) (a2 : Int32) : (WI × WL) :=
  ((p1 (F_X0_quarterRight I L o)), (p2 (F_X0_quarterRight I L o)))
theorem V_X0_rotateBy_18_1  {I : WI} {L : WL} {o : Nat} {a1 : Int32} {a2 : Int32}  {P : (WI × WL) → Prop} {t : Tg} (ho : isX0 o) (hk : ∀ x : (WI × WL), P x → V (zM x_X0_rotateBy 3 0 0 t) 11 [(0, .ref o), (1, .int a1), (2, .int (a2 + 1))] [] ly0 (p1 x) (p2 x) R0 0 0) (kk : P (F_X0_rotateBy_18_1 I L o a1 a2)) : V (zM x_X0_rotateBy 3 0 0 t) 18 [(0, .ref o), (1, .int a1), (2, .int a2)] [] ly0 I L R0 0 0 :=
  V_aload_n (tat ok_X0_rotateBy_0 (i := 12) (q := 19) rfl rfl) 0 rfl rfl <|
    V_cv0v (ct_X0_quarterRight I L o ho) mo_X0_quarterRight (tat ok_X0_rotateBy_0 (i := 13) (q := 22) rfl rfl) ml_X0_82 ho ⟨by decide, _, rfl, rfl⟩ ⟨(Nat.le_of_ble_eq_true rfl), (Nat.le_of_ble_eq_true rfl)⟩ ⟨(Nat.le_of_ble_eq_true rfl), (Nat.le_of_ble_eq_true rfl)⟩ (Nat.le_of_ble_eq_true rfl) <|
    V_iinc (v := (a2 + 1)) (lv' := [(2, .int (a2 + 1)), (0, .ref o), (1, .int a1)]) (tat ok_X0_rotateBy_0 (i := 14) (q := 25) rfl rfl) 2 rfl (ia ic_1) (Nat.le_of_ble_eq_true rfl) rfl <|
    V_goto (tat ok_X0_rotateBy_0 (i := 15) (q := 28) rfl rfl) rfl <|
    V_pick [1, 2, 0] rfl (hk ((p1 (F_X0_quarterRight I L o)), (p2 (F_X0_quarterRight I L o))) (jx (P := P) kk rfl))
def F_X0_rotateBy_28 (I : WI) (L : WL) (o : Nat) (a1 : Int32) : (WI × WL) :=
  (I, L)
theorem V_X0_rotateBy_28  {I : WI} {L : WL} {o : Nat} {a1 : Int32}  {P : (WI × WL) → Prop} {t : Tg} (ho : isX0 o) (hr : ∀ v, P v → t = (none, ly0, (p1 v), (p2 v), R0)) (kk : P (F_X0_rotateBy_28 I L o a1)) : V (zM x_X0_rotateBy 3 0 0 t) 28 [(0, .ref o), (1, .int a1)] [] ly0 I L R0 0 0 :=
  V_vret (tat ok_X0_rotateBy_0 (i := 16) (q := 29) rfl rfl) rfl (hr (I, L) (jx (P := P) kk rfl)) ⟨(Nat.le_of_ble_eq_true rfl), (Nat.le_of_ble_eq_true rfl)⟩
def F_X0_rotateBy_11 (I : WI) (L : WL) (o : Nat) (a1 : Int32) (a2 : Int32) : (WI × WL) :=
  (fun q : Int32 × (WI × WL) => (F_X0_rotateBy_28 (p1 (p2 q)) (p2 (p2 q)) o a1)) (fr0 (fun i x => (F_X0_rotateBy_18_1 (p1 x) (p2 x) o a1 i)) (a1 &&& 3) (fu a2 (a1 &&& 3)) a2 (I, L))
theorem V_X0_rotateBy_11  {I : WI} {L : WL} {o : Nat} {a1 : Int32} {a2 : Int32} {P : (WI × WL) → Prop} {t : Tg} (ho : isX0 o) (hb2 : bz a2 = a2) (hr : ∀ v, P v → t = (none, ly0, (p1 v), (p2 v), R0)) (kk : P (F_X0_rotateBy_11 I L o a1 a2)) : V (zM x_X0_rotateBy 3 0 0 t) 11 [(0, .ref o), (1, .int a1), (2, .int a2)] [] ly0 I L R0 0 0 :=
  V_fr0 (fun i x => (F_X0_rotateBy_18_1 (p1 x) (p2 x) o a1 i)) (a1 &&& 3) (fun i x => V (zM x_X0_rotateBy 3 0 0 t) 11 [(0, .ref o), (1, .int a1), (2, .int i)] [] ly0 (p1 x) (p2 x) R0 0 0) (fun i x => P ((F_X0_rotateBy_28 (p1 x) (p2 x) o a1))) (c := a2) (s := (I, L)) (fun i x kx kb => V_iload_n (tat ok_X0_rotateBy_0 (i := 7) (q := 12) rfl rfl) 2 rfl rfl <|
    V_iload_n (tat ok_X0_rotateBy_0 (i := 8) (q := 13) rfl rfl) 1 rfl rfl <|
    V_iconst (tat ok_X0_rotateBy_0 (i := 9) (q := 14) rfl rfl) ic_3 <|
    V_iand (tat ok_X0_rotateBy_0 (i := 10) (q := 15) rfl rfl) <|
    V_icmp_ge (tat ok_X0_rotateBy_0 (i := 11) (q := 18) rfl rfl) rfl (fun c0 => V_pick [0, 1] rfl (V_X0_rotateBy_28 ho hr (kx c0))) (fun c0 => V_X0_rotateBy_18_1 (P := (fun x => (fun i x => V (zM x_X0_rotateBy 3 0 0 t) 11 [(0, .ref o), (1, .int a1), (2, .int i)] [] ly0 (p1 x) (p2 x) R0 0 0) (i + 1) x)) ho (fun _ e => e) (kb c0))) kk
def F_X0_rotateBy_9 (I : WI) (L : WL) (o : Nat) (a1 : Int32) : (WI × WL) :=
  (F_X0_rotateBy_11 I L o a1 0)
theorem V_X0_rotateBy_9  {I : WI} {L : WL} {o : Nat} {a1 : Int32}  {P : (WI × WL) → Prop} {t : Tg} (ho : isX0 o) (hr : ∀ v, P v → t = (none, ly0, (p1 v), (p2 v), R0)) (kk : P (F_X0_rotateBy_9 I L o a1)) : V (zM x_X0_rotateBy 3 0 0 t) 9 [(0, .ref o), (1, .int a1)] [] ly0 I L R0 0 0 :=
  V_iconst (tat ok_X0_rotateBy_0 (i := 5) (q := 10) rfl rfl) ic_0 <|
    V_istore_n (lv' := [(2, .int 0), (0, .ref o), (1, .int a1)]) (tat ok_X0_rotateBy_0 (i := 6) (q := 11) rfl rfl) rfl (Nat.le_of_ble_eq_true rfl) rfl <|
    V_pick [1, 2, 0] rfl (V_X0_rotateBy_11 ho rfl hr (jx (P := P) kk rfl))
def F_X0_rotateBy (I : WI) (L : WL) (o : Nat) (a1 : Int32) : (WI × WL) :=
  (if a1 < 4 then (F_X0_rotateBy_9 I L o a1) else (F_X0_rotateBy_9 I (F_X0_mirror I L o) o a1))
theorem V_X0_rotateBy  {I : WI} {L : WL} {o : Nat} {a1 : Int32}  {P : (WI × WL) → Prop} {t : Tg} (ho : isX0 o) (hr : ∀ v, P v → t = (none, ly0, (p1 v), (p2 v), R0)) (kk : P (F_X0_rotateBy I L o a1)) : V (zM x_X0_rotateBy 3 0 0 t) 0 [(0, .ref o), (1, .int a1)] [] ly0 I L R0 0 0 :=
  V_iload_n (tat ok_X0_rotateBy_0 (i := 0) (q := 1) rfl rfl) 1 rfl rfl <|
    V_iconst (tat ok_X0_rotateBy_0 (i := 1) (q := 2) rfl rfl) ic_4 <|
    V_icmp_lt (tat ok_X0_rotateBy_0 (i := 2) (q := 5) rfl rfl) rfl (fun c1 => V_X0_rotateBy_9 ho hr (jx (P := P) kk (if_pos c1))) (fun c1 => V_aload_n (tat ok_X0_rotateBy_0 (i := 3) (q := 6) rfl rfl) 0 rfl rfl <|
    V_cv0v (ct_X0_mirror I L o ho) mo_X0_mirror (tat ok_X0_rotateBy_0 (i := 4) (q := 9) rfl rfl) ml_X0_79 ho ⟨by decide, _, rfl, rfl⟩ ⟨(Nat.le_of_ble_eq_true rfl), (Nat.le_of_ble_eq_true rfl)⟩ ⟨(Nat.le_of_ble_eq_true rfl), (Nat.le_of_ble_eq_true rfl)⟩ (Nat.le_of_ble_eq_true rfl) <|
    V_X0_rotateBy_9 ho hr (jx (P := P) kk (if_neg c1)))
theorem ct_X0_rotateBy  (I : WI) (L : WL) (o : Nat) (a1 : Int32) (ho : isX0 o) : Ct x_X0_rotateBy 3 [.ref o, .int a1] ly0 I L R0 0 0 (none, ly0, (p1 (F_X0_rotateBy I L o a1)), (p2 (F_X0_rotateBy I L o a1)), R0) :=
  Ct_of_V mo_X0_rotateBy.1 (Nat.le_of_ble_eq_true rfl) (V_X0_rotateBy (P := fun x => x = (F_X0_rotateBy I L o a1)) ho (fun _ e => by rw [e]) rfl)
def F_J6_bitCount_0f7a4_48 (a0 : Int32) : Int32 :=
  (a0 &&& 63)
theorem V_J6_bitCount_0f7a4_48  {I : WI} {L : WL}  {a0 : Int32} {P : Int32 → Prop} {t : Tg} (hr : ∀ v, P v → t = (some (.int v), ly0, I, L, R0)) (kk : P (F_J6_bitCount_0f7a4_48 a0)) : V (zM x_J6_bitCount_0f7a4 1 0 0 t) 48 [(0, .int a0)] [] ly0 I L R0 0 0 :=
  V_iload_n (tat ok_J6_bitCount_0f7a4_0 (i := 38) (q := 49) rfl rfl) 0 rfl rfl <|
    V_bipush (tat ok_J6_bitCount_0f7a4_0 (i := 39) (q := 51) rfl rfl) bp_63 <|
    V_iand (tat ok_J6_bitCount_0f7a4_1 (i := 0) (q := 52) rfl rfl) <|
    V_iret (tat ok_J6_bitCount_0f7a4_1 (i := 1) (q := 53) rfl rfl) _ rfl (nar_int _) (hr (a0 &&& 63) (jx (P := P) kk rfl)) ⟨(Nat.le_of_ble_eq_true rfl), (Nat.le_of_ble_eq_true rfl)⟩
def F_J6_bitCount_0f7a4_41 (a0 : Int32) : Int32 :=
  (F_J6_bitCount_0f7a4_48 (a0 + (iush a0 16)))
theorem V_J6_bitCount_0f7a4_41  {I : WI} {L : WL}  {a0 : Int32} {P : Int32 → Prop} {t : Tg} (hr : ∀ v, P v → t = (some (.int v), ly0, I, L, R0)) (kk : P (F_J6_bitCount_0f7a4_41 a0)) : V (zM x_J6_bitCount_0f7a4 1 0 0 t) 41 [(0, .int a0)] [] ly0 I L R0 0 0 :=
  V_iload_n (tat ok_J6_bitCount_0f7a4_0 (i := 32) (q := 42) rfl rfl) 0 rfl rfl <|
    V_iload_n (tat ok_J6_bitCount_0f7a4_0 (i := 33) (q := 43) rfl rfl) 0 rfl rfl <|
    V_bipush (tat ok_J6_bitCount_0f7a4_0 (i := 34) (q := 45) rfl rfl) bp_16 <|
    V_iushr (tat ok_J6_bitCount_0f7a4_0 (i := 35) (q := 46) rfl rfl) <|
    V_iadd (tat ok_J6_bitCount_0f7a4_0 (i := 36) (q := 47) rfl rfl) <|
    V_istore_n (lv' := [(0, .int (a0 + (iush a0 16)))]) (tat ok_J6_bitCount_0f7a4_0 (i := 37) (q := 48) rfl rfl) rfl (Nat.le_of_ble_eq_true rfl) rfl <|
    V_J6_bitCount_0f7a4_48  hr (jx (P := P) kk rfl)
def F_J6_bitCount_0f7a4_34 (a0 : Int32) : Int32 :=
  (F_J6_bitCount_0f7a4_41 (a0 + (iush a0 8)))
theorem V_J6_bitCount_0f7a4_34  {I : WI} {L : WL}  {a0 : Int32} {P : Int32 → Prop} {t : Tg} (hr : ∀ v, P v → t = (some (.int v), ly0, I, L, R0)) (kk : P (F_J6_bitCount_0f7a4_34 a0)) : V (zM x_J6_bitCount_0f7a4 1 0 0 t) 34 [(0, .int a0)] [] ly0 I L R0 0 0 :=
  V_iload_n (tat ok_J6_bitCount_0f7a4_0 (i := 26) (q := 35) rfl rfl) 0 rfl rfl <|
    V_iload_n (tat ok_J6_bitCount_0f7a4_0 (i := 27) (q := 36) rfl rfl) 0 rfl rfl <|
    V_bipush (tat ok_J6_bitCount_0f7a4_0 (i := 28) (q := 38) rfl rfl) bp_8 <|
    V_iushr (tat ok_J6_bitCount_0f7a4_0 (i := 29) (q := 39) rfl rfl) <|
    V_iadd (tat ok_J6_bitCount_0f7a4_0 (i := 30) (q := 40) rfl rfl) <|
    V_istore_n (lv' := [(0, .int (a0 + (iush a0 8)))]) (tat ok_J6_bitCount_0f7a4_0 (i := 31) (q := 41) rfl rfl) rfl (Nat.le_of_ble_eq_true rfl) rfl <|
    V_J6_bitCount_0f7a4_41  hr (jx (P := P) kk rfl)
def F_J6_bitCount_0f7a4_24 (a0 : Int32) : Int32 :=
  (F_J6_bitCount_0f7a4_34 ((a0 + (iush a0 4)) &&& 252645135))
theorem V_J6_bitCount_0f7a4_24  {I : WI} {L : WL}  {a0 : Int32} {P : Int32 → Prop} {t : Tg} (hr : ∀ v, P v → t = (some (.int v), ly0, I, L, R0)) (kk : P (F_J6_bitCount_0f7a4_24 a0)) : V (zM x_J6_bitCount_0f7a4 1 0 0 t) 24 [(0, .int a0)] [] ly0 I L R0 0 0 :=
  V_iload_n (tat ok_J6_bitCount_0f7a4_0 (i := 18) (q := 25) rfl rfl) 0 rfl rfl <|
    V_iload_n (tat ok_J6_bitCount_0f7a4_0 (i := 19) (q := 26) rfl rfl) 0 rfl rfl <|
    V_iconst (tat ok_J6_bitCount_0f7a4_0 (i := 20) (q := 27) rfl rfl) ic_4 <|
    V_iushr (tat ok_J6_bitCount_0f7a4_0 (i := 21) (q := 28) rfl rfl) <|
    V_iadd (tat ok_J6_bitCount_0f7a4_0 (i := 22) (q := 29) rfl rfl) <|
    V_ldcw (tat ok_J6_bitCount_0f7a4_0 (i := 23) (q := 32) rfl rfl) (gw_in kl_J6_267 rfl) <|
    V_iand (tat ok_J6_bitCount_0f7a4_0 (i := 24) (q := 33) rfl rfl) <|
    V_istore_n (lv' := [(0, .int ((a0 + (iush a0 4)) &&& 252645135))]) (tat ok_J6_bitCount_0f7a4_0 (i := 25) (q := 34) rfl rfl) rfl (Nat.le_of_ble_eq_true rfl) rfl <|
    V_J6_bitCount_0f7a4_34  hr (jx (P := P) kk rfl)
def F_J6_bitCount_0f7a4_10 (a0 : Int32) : Int32 :=
  (F_J6_bitCount_0f7a4_24 ((a0 &&& 858993459) + ((iush a0 2) &&& 858993459)))
theorem V_J6_bitCount_0f7a4_10  {I : WI} {L : WL}  {a0 : Int32} {P : Int32 → Prop} {t : Tg} (hr : ∀ v, P v → t = (some (.int v), ly0, I, L, R0)) (kk : P (F_J6_bitCount_0f7a4_10 a0)) : V (zM x_J6_bitCount_0f7a4 1 0 0 t) 10 [(0, .int a0)] [] ly0 I L R0 0 0 :=
  V_iload_n (tat ok_J6_bitCount_0f7a4_0 (i := 8) (q := 11) rfl rfl) 0 rfl rfl <|
    V_ldcw (tat ok_J6_bitCount_0f7a4_0 (i := 9) (q := 14) rfl rfl) (gw_in kl_J6_266 rfl) <|
    V_iand (tat ok_J6_bitCount_0f7a4_0 (i := 10) (q := 15) rfl rfl) <|
    V_iload_n (tat ok_J6_bitCount_0f7a4_0 (i := 11) (q := 16) rfl rfl) 0 rfl rfl <|
    V_iconst (tat ok_J6_bitCount_0f7a4_0 (i := 12) (q := 17) rfl rfl) ic_2 <|
    V_iushr (tat ok_J6_bitCount_0f7a4_0 (i := 13) (q := 18) rfl rfl) <|
    V_ldcw (tat ok_J6_bitCount_0f7a4_0 (i := 14) (q := 21) rfl rfl) (gw_in kl_J6_266 rfl) <|
    V_iand (tat ok_J6_bitCount_0f7a4_0 (i := 15) (q := 22) rfl rfl) <|
    V_iadd (tat ok_J6_bitCount_0f7a4_0 (i := 16) (q := 23) rfl rfl) <|
    V_istore_n (lv' := [(0, .int ((a0 &&& 858993459) + ((iush a0 2) &&& 858993459)))]) (tat ok_J6_bitCount_0f7a4_0 (i := 17) (q := 24) rfl rfl) rfl (Nat.le_of_ble_eq_true rfl) rfl <|
    V_J6_bitCount_0f7a4_24  hr (jx (P := P) kk rfl)
def F_J6_bitCount_0f7a4 (a0 : Int32) : Int32 :=
  (F_J6_bitCount_0f7a4_10 (a0 - ((iush a0 1) &&& 1431655765)))
theorem V_J6_bitCount_0f7a4  {I : WI} {L : WL}  {a0 : Int32} {P : Int32 → Prop} {t : Tg} (hr : ∀ v, P v → t = (some (.int v), ly0, I, L, R0)) (kk : P (F_J6_bitCount_0f7a4 a0)) : V (zM x_J6_bitCount_0f7a4 1 0 0 t) 0 [(0, .int a0)] [] ly0 I L R0 0 0 :=
  V_iload_n (tat ok_J6_bitCount_0f7a4_0 (i := 0) (q := 1) rfl rfl) 0 rfl rfl <|
    V_iload_n (tat ok_J6_bitCount_0f7a4_0 (i := 1) (q := 2) rfl rfl) 0 rfl rfl <|
    V_iconst (tat ok_J6_bitCount_0f7a4_0 (i := 2) (q := 3) rfl rfl) ic_1 <|
    V_iushr (tat ok_J6_bitCount_0f7a4_0 (i := 3) (q := 4) rfl rfl) <|
    V_ldcw (tat ok_J6_bitCount_0f7a4_0 (i := 4) (q := 7) rfl rfl) (gw_in kl_J6_265 rfl) <|
    V_iand (tat ok_J6_bitCount_0f7a4_0 (i := 5) (q := 8) rfl rfl) <|
    V_isub (tat ok_J6_bitCount_0f7a4_0 (i := 6) (q := 9) rfl rfl) <|
    V_istore_n (lv' := [(0, .int (a0 - ((iush a0 1) &&& 1431655765)))]) (tat ok_J6_bitCount_0f7a4_0 (i := 7) (q := 10) rfl rfl) rfl (Nat.le_of_ble_eq_true rfl) rfl <|
    V_J6_bitCount_0f7a4_10  hr (jx (P := P) kk rfl)
theorem ct_J6_bitCount_0f7a4  (I : WI) (L : WL)  (a0 : Int32)  : Ct x_J6_bitCount_0f7a4 1 [.int a0] ly0 I L R0 0 0 (some (.int (F_J6_bitCount_0f7a4 a0)), ly0, I, L, R0) :=
  Ct_of_V mo_J6_bitCount_0f7a4.1 (Nat.le_of_ble_eq_true rfl) (V_J6_bitCount_0f7a4 (P := fun x => x = (F_J6_bitCount_0f7a4 a0))  (fun _ e => by rw [e]) rfl)
