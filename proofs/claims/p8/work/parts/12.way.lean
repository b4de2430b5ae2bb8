def F_X7_acts (I : WI) : Int32 :=
  (((F_J6_bitCount_0f7a4 (I 27 1)) + (F_J6_bitCount_0f7a4 (I 27 2))) + (F_J6_bitCount_0f7a4 (I 27 3)))
theorem V_X7_acts  {I : WI} {L : WL}   {P : Int32 → Prop} {t : Tg} (hr : ∀ v, P v → t = (some (.int v), ly0, I, L, R0)) (kk : P (F_X7_acts I)) : V (zM x_X7_acts 2 0 0 t) 0 [(0, .ref 27)] [] ly0 I L R0 0 0 :=
  V_aload_n (tat ok_X7_acts_0 (i := 0) (q := 1) rfl rfl) 0 rfl rfl <|
    V_getI (tat ok_X7_acts_0 (i := 1) (q := 4) rfl rfl) fk_X7_18 rfl <|
    V_cs1 (ct_J6_bitCount_0f7a4 I L (I 27 1) ) mo_J6_bitCount_0f7a4 (tat ok_X7_acts_0 (i := 2) (q := 7) rfl rfl) ml_X7_22 ⟨(Nat.le_of_ble_eq_true rfl), (Nat.le_of_ble_eq_true rfl)⟩ ⟨(Nat.le_of_ble_eq_true rfl), (Nat.le_of_ble_eq_true rfl)⟩ (Nat.le_of_ble_eq_true rfl) <|
    V_aload_n (tat ok_X7_acts_0 (i := 3) (q := 8) rfl rfl) 0 rfl rfl <|
    V_getI (tat ok_X7_acts_0 (i := 4) (q := 11) rfl rfl) fk_X7_28 rfl <|
    V_cs1 (ct_J6_bitCount_0f7a4 I L (I 27 2) ) mo_J6_bitCount_0f7a4 (tat ok_X7_acts_0 (i := 5) (q := 14) rfl rfl) ml_X7_22 ⟨(Nat.le_of_ble_eq_true rfl), (Nat.le_of_ble_eq_true rfl)⟩ ⟨(Nat.le_of_ble_eq_true rfl), (Nat.le_of_ble_eq_true rfl)⟩ (Nat.le_of_ble_eq_true rfl) <|
    V_iadd (tat ok_X7_acts_0 (i := 6) (q := 15) rfl rfl) <|
    V_aload_n (tat ok_X7_acts_0 (i := 7) (q := 16) rfl rfl) 0 rfl rfl <|
    V_getI (tat ok_X7_acts_0 (i := 8) (q := 19) rfl rfl) fk_X7_31 rfl <|
    V_cs1 (ct_J6_bitCount_0f7a4 I L (I 27 3) ) mo_J6_bitCount_0f7a4 (tat ok_X7_acts_0 (i := 9) (q := 22) rfl rfl) ml_X7_22 ⟨(Nat.le_of_ble_eq_true rfl), (Nat.le_of_ble_eq_true rfl)⟩ ⟨(Nat.le_of_ble_eq_true rfl), (Nat.le_of_ble_eq_true rfl)⟩ (Nat.le_of_ble_eq_true rfl) <|
    V_iadd (tat ok_X7_acts_0 (i := 10) (q := 23) rfl rfl) <|
    V_iret (tat ok_X7_acts_0 (i := 11) (q := 24) rfl rfl) _ rfl (nar_int _) (hr (((F_J6_bitCount_0f7a4 (I 27 1)) + (F_J6_bitCount_0f7a4 (I 27 2))) + (F_J6_bitCount_0f7a4 (I 27 3))) (jx (P := P) kk rfl)) ⟨(Nat.le_of_ble_eq_true rfl), (Nat.le_of_ble_eq_true rfl)⟩
theorem ct_X7_acts  (I : WI) (L : WL)  : Ct x_X7_acts 2 [.ref 27] ly0 I L R0 0 0 (some (.int (F_X7_acts I)), ly0, I, L, R0) :=
  Ct_of_V mo_X7_acts.1 (Nat.le_of_ble_eq_true rfl) (V_X7_acts (P := fun x => x = (F_X7_acts I))  (fun _ e => by rw [e]) rfl)
def F_X7_take (I : WI) (a1 : Int32) (a2 : Int32) (a3 : Int32) : WI :=
  (u2 (u2 (u2 I 27 1 a1) 27 2 a2) 27 3 a3)
theorem V_X7_take  {I : WI} {L : WL} {a1 : Int32} {a2 : Int32} {a3 : Int32}  {P : WI → Prop} {t : Tg} (hr : ∀ v, P v → t = (none, ly0, v, L, R0)) (kk : P (F_X7_take I a1 a2 a3)) : V (zM x_X7_take 1 0 0 t) 0 [(0, .ref 27), (1, .int a1), (2, .int a2), (3, .int a3)] [] ly0 I L R0 0 0 :=
  V_aload_n (tat ok_X7_take_0 (i := 0) (q := 1) rfl rfl) 0 rfl rfl <|
    V_iload_n (tat ok_X7_take_0 (i := 1) (q := 2) rfl rfl) 1 rfl rfl <|
    V_putI (tat ok_X7_take_0 (i := 2) (q := 5) rfl rfl) fk_X7_18 rfl rfl <|
    V_aload_n (tat ok_X7_take_0 (i := 3) (q := 6) rfl rfl) 0 rfl rfl <|
    V_iload_n (tat ok_X7_take_0 (i := 4) (q := 7) rfl rfl) 2 rfl rfl <|
    V_putI (tat ok_X7_take_0 (i := 5) (q := 10) rfl rfl) fk_X7_28 rfl rfl <|
    V_aload_n (tat ok_X7_take_0 (i := 6) (q := 11) rfl rfl) 0 rfl rfl <|
    V_iload_n (tat ok_X7_take_0 (i := 7) (q := 12) rfl rfl) 3 rfl rfl <|
    V_putI (tat ok_X7_take_0 (i := 8) (q := 15) rfl rfl) fk_X7_31 rfl rfl <|
    V_vret (tat ok_X7_take_0 (i := 9) (q := 16) rfl rfl) rfl (hr (u2 (u2 (u2 I 27 1 a1) 27 2 a2) 27 3 a3) (jx (P := P) kk rfl)) ⟨(Nat.le_of_ble_eq_true rfl), (Nat.le_of_ble_eq_true rfl)⟩
theorem ct_X7_take  (I : WI) (L : WL) (a1 : Int32) (a2 : Int32) (a3 : Int32)  : Ct x_X7_take 1 [.ref 27, .int a1, .int a2, .int a3] ly0 I L R0 0 0 (none, ly0, (F_X7_take I a1 a2 a3), L, R0) :=
  Ct_of_V mo_X7_take.1 (Nat.le_of_ble_eq_true rfl) (V_X7_take (P := fun x => x = (F_X7_take I a1 a2 a3))  (fun _ e => by rw [e]) rfl)
def F_X7_findPlan_104 (I : WI) (r1 : Nat) (a2 : Int64) : WI :=
  I
theorem V_X7_findPlan_104  {I : WI} {L : WL} {r1 : Nat} {a2 : Int64}  {P : WI → Prop} {t : Tg} (hr1 : isX0 r1) (hr : ∀ v, P v → t = (none, ly0, v, L, R0)) (kk : P (F_X7_findPlan_104 I r1 a2)) : V (zM x_X7_findPlan 6 0 0 t) 104 [(0, .ref 27), (1, .ref r1), (2, .long a2)] [] ly0 I L R0 0 0 :=
  V_vret (tat ok_X7_findPlan_1 (i := 16) (q := 105) rfl rfl) rfl (hr I (jx (P := P) kk rfl)) ⟨(Nat.le_of_ble_eq_true rfl), (Nat.le_of_ble_eq_true rfl)⟩
def F_X7_findPlan_88 (I : WI) (r1 : Nat) (a2 : Int64) (a4 : Int32) : WI :=
  (F_X7_findPlan_104 (F_X7_take I a4 ((I 27 2) ^^^ (F_X0_everyColumn I r1)) 0) r1 a2)
theorem V_X7_findPlan_88  {I : WI} {L : WL} {r1 : Nat} {a2 : Int64} {a4 : Int32} {P : WI → Prop} {t : Tg} (hr1 : isX0 r1) (hr : ∀ v, P v → t = (none, ly0, v, L, R0)) (kk : P (F_X7_findPlan_88 I r1 a2 a4)) : V (zM x_X7_findPlan 6 0 0 t) 88 [(0, .ref 27), (1, .ref r1), (2, .long a2), (4, .int a4)] [] ly0 I L R0 0 0 :=
  V_aload_n (tat ok_X7_findPlan_1 (i := 7) (q := 89) rfl rfl) 0 rfl rfl <|
    V_iload (tat ok_X7_findPlan_1 (i := 8) (q := 91) rfl rfl) 3 rfl <|
    V_aload_n (tat ok_X7_findPlan_1 (i := 9) (q := 92) rfl rfl) 0 rfl rfl <|
    V_getI (tat ok_X7_findPlan_1 (i := 10) (q := 95) rfl rfl) fk_X7_28 rfl <|
    V_aload_n (tat ok_X7_findPlan_1 (i := 11) (q := 96) rfl rfl) 1 rfl rfl <|
    V_cv0 (ct_X0_everyColumn I L r1 hr1) mo_X0_everyColumn (tat ok_X7_findPlan_1 (i := 12) (q := 99) rfl rfl) ml_X7_68 hr1 ⟨by decide, _, rfl, rfl⟩ ⟨(Nat.le_of_ble_eq_true rfl), (Nat.le_of_ble_eq_true rfl)⟩ ⟨(Nat.le_of_ble_eq_true rfl), (Nat.le_of_ble_eq_true rfl)⟩ (Nat.le_of_ble_eq_true rfl) <|
    V_ixor (tat ok_X7_findPlan_1 (i := 13) (q := 100) rfl rfl) <|
    V_iconst (tat ok_X7_findPlan_1 (i := 14) (q := 101) rfl rfl) ic_0 <|
    V_cv3v (ct_X7_take I L a4 ((I 27 2) ^^^ (F_X0_everyColumn I r1)) 0 ) mo_X7_take (tat ok_X7_findPlan_1 (i := 15) (q := 104) rfl rfl) ml_X7_51 rfl ⟨by decide, _, rfl, rfl⟩ ⟨(Nat.le_of_ble_eq_true rfl), (Nat.le_of_ble_eq_true rfl)⟩ ⟨(Nat.le_of_ble_eq_true rfl), (Nat.le_of_ble_eq_true rfl)⟩ (Nat.le_of_ble_eq_true rfl) <|
    V_pick [0, 1, 2] rfl (V_X7_findPlan_104 hr1 hr (jx (P := P) kk rfl))
def F_X7_findPlan_16 (I : WI) (r1 : Nat) (a2 : Int64) (s0 : Int32) : WI :=
  (if ((((F_X7_take (u2 I 27 0 s0) (F_X0_rowsUnlikeFirst (u2 I 27 0 s0) r1 a2) (F_X0_columnsOfFirstRow (u2 I 27 0 s0) r1 a2) 0) r1 1) + ((F_X7_take (u2 I 27 0 s0) (F_X0_rowsUnlikeFirst (u2 I 27 0 s0) r1 a2) (F_X0_columnsOfFirstRow (u2 I 27 0 s0) r1 a2) 0) r1 2)) - (F_X7_acts (F_X7_take (u2 I 27 0 s0) (F_X0_rowsUnlikeFirst (u2 I 27 0 s0) r1 a2) (F_X0_columnsOfFirstRow (u2 I 27 0 s0) r1 a2) 0))) < (F_X7_acts (F_X7_take (u2 I 27 0 s0) (F_X0_rowsUnlikeFirst (u2 I 27 0 s0) r1 a2) (F_X0_columnsOfFirstRow (u2 I 27 0 s0) r1 a2) 0)) then (F_X7_findPlan_88 (F_X7_take (u2 I 27 0 s0) (F_X0_rowsUnlikeFirst (u2 I 27 0 s0) r1 a2) (F_X0_columnsOfFirstRow (u2 I 27 0 s0) r1 a2) 0) r1 a2 (((F_X7_take (u2 I 27 0 s0) (F_X0_rowsUnlikeFirst (u2 I 27 0 s0) r1 a2) (F_X0_columnsOfFirstRow (u2 I 27 0 s0) r1 a2) 0) 27 1) ^^^ (F_X0_everyRow (F_X7_take (u2 I 27 0 s0) (F_X0_rowsUnlikeFirst (u2 I 27 0 s0) r1 a2) (F_X0_columnsOfFirstRow (u2 I 27 0 s0) r1 a2) 0) r1))) else (if ((((F_X7_take (u2 I 27 0 s0) (F_X0_rowsUnlikeFirst (u2 I 27 0 s0) r1 a2) (F_X0_columnsOfFirstRow (u2 I 27 0 s0) r1 a2) 0) r1 1) + ((F_X7_take (u2 I 27 0 s0) (F_X0_rowsUnlikeFirst (u2 I 27 0 s0) r1 a2) (F_X0_columnsOfFirstRow (u2 I 27 0 s0) r1 a2) 0) r1 2)) - (F_X7_acts (F_X7_take (u2 I 27 0 s0) (F_X0_rowsUnlikeFirst (u2 I 27 0 s0) r1 a2) (F_X0_columnsOfFirstRow (u2 I 27 0 s0) r1 a2) 0))) = (F_X7_acts (F_X7_take (u2 I 27 0 s0) (F_X0_rowsUnlikeFirst (u2 I 27 0 s0) r1 a2) (F_X0_columnsOfFirstRow (u2 I 27 0 s0) r1 a2) 0)) then (if ((F_X7_take (u2 I 27 0 s0) (F_X0_rowsUnlikeFirst (u2 I 27 0 s0) r1 a2) (F_X0_columnsOfFirstRow (u2 I 27 0 s0) r1 a2) 0) 27 1) ≤ (((F_X7_take (u2 I 27 0 s0) (F_X0_rowsUnlikeFirst (u2 I 27 0 s0) r1 a2) (F_X0_columnsOfFirstRow (u2 I 27 0 s0) r1 a2) 0) 27 1) ^^^ (F_X0_everyRow (F_X7_take (u2 I 27 0 s0) (F_X0_rowsUnlikeFirst (u2 I 27 0 s0) r1 a2) (F_X0_columnsOfFirstRow (u2 I 27 0 s0) r1 a2) 0) r1)) then (F_X7_findPlan_104 (F_X7_take (u2 I 27 0 s0) (F_X0_rowsUnlikeFirst (u2 I 27 0 s0) r1 a2) (F_X0_columnsOfFirstRow (u2 I 27 0 s0) r1 a2) 0) r1 a2) else (F_X7_findPlan_88 (F_X7_take (u2 I 27 0 s0) (F_X0_rowsUnlikeFirst (u2 I 27 0 s0) r1 a2) (F_X0_columnsOfFirstRow (u2 I 27 0 s0) r1 a2) 0) r1 a2 (((F_X7_take (u2 I 27 0 s0) (F_X0_rowsUnlikeFirst (u2 I 27 0 s0) r1 a2) (F_X0_columnsOfFirstRow (u2 I 27 0 s0) r1 a2) 0) 27 1) ^^^ (F_X0_everyRow (F_X7_take (u2 I 27 0 s0) (F_X0_rowsUnlikeFirst (u2 I 27 0 s0) r1 a2) (F_X0_columnsOfFirstRow (u2 I 27 0 s0) r1 a2) 0) r1)))) else (F_X7_findPlan_104 (F_X7_take (u2 I 27 0 s0) (F_X0_rowsUnlikeFirst (u2 I 27 0 s0) r1 a2) (F_X0_columnsOfFirstRow (u2 I 27 0 s0) r1 a2) 0) r1 a2)))
theorem V_X7_findPlan_16  {I : WI} {L : WL} {r1 : Nat} {a2 : Int64} {s0 : Int32} {P : WI → Prop} {t : Tg} (hr1 : isX0 r1) (hs0 : bz s0 = s0) (hr : ∀ v, P v → t = (none, ly0, v, L, R0)) (kk : P (F_X7_findPlan_16 I r1 a2 s0)) : V (zM x_X7_findPlan 6 0 0 t) 16 [(0, .ref 27), (1, .ref r1), (2, .long a2)] [.int s0, .ref 27] ly0 I L R0 0 0 :=
  V_putZ (tat ok_X7_findPlan_0 (i := 10) (q := 19) rfl rfl) fk_X7_40 rfl rfl hs0 <|
    V_aload_n (tat ok_X7_findPlan_0 (i := 11) (q := 20) rfl rfl) 0 rfl rfl <|
    V_aload_n (tat ok_X7_findPlan_0 (i := 12) (q := 21) rfl rfl) 1 rfl rfl <|
    V_lload_n (tat ok_X7_findPlan_0 (i := 13) (q := 22) rfl rfl) 2 rfl rfl <|
    V_cv1 (ct_X0_rowsUnlikeFirst (u2 I 27 0 s0) L r1 a2 hr1) mo_X0_rowsUnlikeFirst (tat ok_X7_findPlan_0 (i := 14) (q := 25) rfl rfl) ml_X7_44 hr1 ⟨by decide, _, rfl, rfl⟩ ⟨(Nat.le_of_ble_eq_true rfl), (Nat.le_of_ble_eq_true rfl)⟩ ⟨(Nat.le_of_ble_eq_true rfl), (Nat.le_of_ble_eq_true rfl)⟩ (Nat.le_of_ble_eq_true rfl) <|
    V_aload_n (tat ok_X7_findPlan_0 (i := 15) (q := 26) rfl rfl) 1 rfl rfl <|
    V_lload_n (tat ok_X7_findPlan_0 (i := 16) (q := 27) rfl rfl) 2 rfl rfl <|
    V_cv1 (ct_X0_columnsOfFirstRow (u2 I 27 0 s0) L r1 a2 hr1) mo_X0_columnsOfFirstRow (tat ok_X7_findPlan_0 (i := 17) (q := 30) rfl rfl) ml_X7_48 hr1 ⟨by decide, _, rfl, rfl⟩ ⟨(Nat.le_of_ble_eq_true rfl), (Nat.le_of_ble_eq_true rfl)⟩ ⟨(Nat.le_of_ble_eq_true rfl), (Nat.le_of_ble_eq_true rfl)⟩ (Nat.le_of_ble_eq_true rfl) <|
    V_iconst (tat ok_X7_findPlan_0 (i := 18) (q := 31) rfl rfl) ic_0 <|
    V_cv3v (ct_X7_take (u2 I 27 0 s0) L (F_X0_rowsUnlikeFirst (u2 I 27 0 s0) r1 a2) (F_X0_columnsOfFirstRow (u2 I 27 0 s0) r1 a2) 0 ) mo_X7_take (tat ok_X7_findPlan_0 (i := 19) (q := 34) rfl rfl) ml_X7_51 rfl ⟨by decide, _, rfl, rfl⟩ ⟨(Nat.le_of_ble_eq_true rfl), (Nat.le_of_ble_eq_true rfl)⟩ ⟨(Nat.le_of_ble_eq_true rfl), (Nat.le_of_ble_eq_true rfl)⟩ (Nat.le_of_ble_eq_true rfl) <|
    V_aload_n (tat ok_X7_findPlan_0 (i := 20) (q := 35) rfl rfl) 0 rfl rfl <|
    V_getI (tat ok_X7_findPlan_0 (i := 21) (q := 38) rfl rfl) fk_X7_18 rfl <|
    V_aload_n (tat ok_X7_findPlan_0 (i := 22) (q := 39) rfl rfl) 1 rfl rfl <|
    V_cv0 (ct_X0_everyRow (F_X7_take (u2 I 27 0 s0) (F_X0_rowsUnlikeFirst (u2 I 27 0 s0) r1 a2) (F_X0_columnsOfFirstRow (u2 I 27 0 s0) r1 a2) 0) L r1 hr1) mo_X0_everyRow (tat ok_X7_findPlan_0 (i := 23) (q := 42) rfl rfl) ml_X7_55 hr1 ⟨by decide, _, rfl, rfl⟩ ⟨(Nat.le_of_ble_eq_true rfl), (Nat.le_of_ble_eq_true rfl)⟩ ⟨(Nat.le_of_ble_eq_true rfl), (Nat.le_of_ble_eq_true rfl)⟩ (Nat.le_of_ble_eq_true rfl) <|
    V_ixor (tat ok_X7_findPlan_0 (i := 24) (q := 43) rfl rfl) <|
    V_istore (lv' := [(4, .int (((F_X7_take (u2 I 27 0 s0) (F_X0_rowsUnlikeFirst (u2 I 27 0 s0) r1 a2) (F_X0_columnsOfFirstRow (u2 I 27 0 s0) r1 a2) 0) 27 1) ^^^ (F_X0_everyRow (F_X7_take (u2 I 27 0 s0) (F_X0_rowsUnlikeFirst (u2 I 27 0 s0) r1 a2) (F_X0_columnsOfFirstRow (u2 I 27 0 s0) r1 a2) 0) r1))), (0, .ref 27), (1, .ref r1), (2, .long a2)]) (tat ok_X7_findPlan_0 (i := 25) (q := 45) rfl rfl) (Nat.le_of_ble_eq_true rfl) rfl <|
    V_aload_n (tat ok_X7_findPlan_0 (i := 26) (q := 46) rfl rfl) 1 rfl rfl <|
    V_cv0 (ct_X7_acts (F_X7_take (u2 I 27 0 s0) (F_X0_rowsUnlikeFirst (u2 I 27 0 s0) r1 a2) (F_X0_columnsOfFirstRow (u2 I 27 0 s0) r1 a2) 0) L  ) mo_X7_acts (tat ok_X7_findPlan_0 (i := 27) (q := 49) rfl rfl) ml_X7_59 rfl ⟨by decide, _, rfl, rfl⟩ ⟨(Nat.le_of_ble_eq_true rfl), (Nat.le_of_ble_eq_true rfl)⟩ ⟨(Nat.le_of_ble_eq_true rfl), (Nat.le_of_ble_eq_true rfl)⟩ (Nat.le_of_ble_eq_true rfl) <|
    V_istore (lv' := [(5, .int (F_X7_acts (F_X7_take (u2 I 27 0 s0) (F_X0_rowsUnlikeFirst (u2 I 27 0 s0) r1 a2) (F_X0_columnsOfFirstRow (u2 I 27 0 s0) r1 a2) 0))), (4, .int (((F_X7_take (u2 I 27 0 s0) (F_X0_rowsUnlikeFirst (u2 I 27 0 s0) r1 a2) (F_X0_columnsOfFirstRow (u2 I 27 0 s0) r1 a2) 0) 27 1) ^^^ (F_X0_everyRow (F_X7_take (u2 I 27 0 s0) (F_X0_rowsUnlikeFirst (u2 I 27 0 s0) r1 a2) (F_X0_columnsOfFirstRow (u2 I 27 0 s0) r1 a2) 0) r1))), (0, .ref 27), (1, .ref r1), (2, .long a2)]) (tat ok_X7_findPlan_0 (i := 28) (q := 51) rfl rfl) (Nat.le_of_ble_eq_true rfl) rfl <|
    V_aload_n (tat ok_X7_findPlan_0 (i := 29) (q := 52) rfl rfl) 3 rfl rfl <|
    V_getI (tat ok_X7_findPlan_0 (i := 30) (q := 55) rfl rfl) fk_X7_62 hr1 <|
    V_aload_n (tat ok_X7_findPlan_0 (i := 31) (q := 56) rfl rfl) 3 rfl rfl <|
    V_getI (tat ok_X7_findPlan_0 (i := 32) (q := 59) rfl rfl) fk_X7_65 hr1 <|
    V_iadd (tat ok_X7_findPlan_0 (i := 33) (q := 60) rfl rfl) <|
    V_iload (tat ok_X7_findPlan_0 (i := 34) (q := 62) rfl rfl) 0 rfl <|
    V_isub (tat ok_X7_findPlan_0 (i := 35) (q := 63) rfl rfl) <|
    V_istore (lv' := [(6, .int ((((F_X7_take (u2 I 27 0 s0) (F_X0_rowsUnlikeFirst (u2 I 27 0 s0) r1 a2) (F_X0_columnsOfFirstRow (u2 I 27 0 s0) r1 a2) 0) r1 1) + ((F_X7_take (u2 I 27 0 s0) (F_X0_rowsUnlikeFirst (u2 I 27 0 s0) r1 a2) (F_X0_columnsOfFirstRow (u2 I 27 0 s0) r1 a2) 0) r1 2)) - (F_X7_acts (F_X7_take (u2 I 27 0 s0) (F_X0_rowsUnlikeFirst (u2 I 27 0 s0) r1 a2) (F_X0_columnsOfFirstRow (u2 I 27 0 s0) r1 a2) 0)))), (5, .int (F_X7_acts (F_X7_take (u2 I 27 0 s0) (F_X0_rowsUnlikeFirst (u2 I 27 0 s0) r1 a2) (F_X0_columnsOfFirstRow (u2 I 27 0 s0) r1 a2) 0))), (4, .int (((F_X7_take (u2 I 27 0 s0) (F_X0_rowsUnlikeFirst (u2 I 27 0 s0) r1 a2) (F_X0_columnsOfFirstRow (u2 I 27 0 s0) r1 a2) 0) 27 1) ^^^ (F_X0_everyRow (F_X7_take (u2 I 27 0 s0) (F_X0_rowsUnlikeFirst (u2 I 27 0 s0) r1 a2) (F_X0_columnsOfFirstRow (u2 I 27 0 s0) r1 a2) 0) r1))), (0, .ref 27), (1, .ref r1), (2, .long a2)]) (tat ok_X7_findPlan_0 (i := 36) (q := 65) rfl rfl) (Nat.le_of_ble_eq_true rfl) rfl <|
    V_iload (tat ok_X7_findPlan_0 (i := 37) (q := 67) rfl rfl) 0 rfl <|
    V_iload (tat ok_X7_findPlan_0 (i := 38) (q := 69) rfl rfl) 1 rfl <|
    V_icmp_lt (tat ok_X7_findPlan_0 (i := 39) (q := 72) rfl rfl) rfl (fun c2 => V_pick [3, 4, 5, 2] rfl (V_X7_findPlan_88 hr1 hr (jx (P := P) kk (if_pos c2)))) (fun c2 => V_iload (tat ok_X7_findPlan_1 (i := 0) (q := 74) rfl rfl) 0 rfl <|
    V_iload (tat ok_X7_findPlan_1 (i := 1) (q := 76) rfl rfl) 1 rfl <|
    V_icmp_ne (tat ok_X7_findPlan_1 (i := 2) (q := 79) rfl rfl) rfl (fun c3 => V_pick [3, 4, 5] rfl (V_X7_findPlan_104 hr1 hr (jx (P := P) kk (Eq.trans (if_neg c2) (if_neg c3))))) (fun c3 => V_iload (tat ok_X7_findPlan_1 (i := 3) (q := 81) rfl rfl) 2 rfl <|
    V_aload_n (tat ok_X7_findPlan_1 (i := 4) (q := 82) rfl rfl) 3 rfl rfl <|
    V_getI (tat ok_X7_findPlan_1 (i := 5) (q := 85) rfl rfl) fk_X7_18 rfl <|
    V_icmp_ge (tat ok_X7_findPlan_1 (i := 6) (q := 88) rfl rfl) rfl (fun c4 => V_pick [3, 4, 5] rfl (V_X7_findPlan_104 hr1 hr (jx (P := P) kk (Eq.trans (if_neg c2) (Eq.trans (if_pos c3) (if_pos c4)))))) (fun c4 => V_pick [3, 4, 5, 2] rfl (V_X7_findPlan_88 hr1 hr (jx (P := P) kk (Eq.trans (if_neg c2) (Eq.trans (if_pos c3) (if_neg c4))))))))
def F_X7_findPlan (I : WI) (r1 : Nat) (a2 : Int64) : WI :=
  (if (lg_cmp (F_X0_formOf I r1 a2) 0) = 0 then (F_X7_findPlan_16 I r1 a2 1) else (F_X7_findPlan_16 I r1 a2 0))
theorem V_X7_findPlan  {I : WI} {L : WL} {r1 : Nat} {a2 : Int64}  {P : WI → Prop} {t : Tg} (hr1 : isX0 r1) (hr : ∀ v, P v → t = (none, ly0, v, L, R0)) (kk : P (F_X7_findPlan I r1 a2)) : V (zM x_X7_findPlan 6 0 0 t) 0 [(0, .ref 27), (1, .ref r1), (2, .long a2)] [] ly0 I L R0 0 0 :=
  V_aload_n (tat ok_X7_findPlan_0 (i := 0) (q := 1) rfl rfl) 0 rfl rfl <|
    V_aload_n (tat ok_X7_findPlan_0 (i := 1) (q := 2) rfl rfl) 1 rfl rfl <|
    V_lload_n (tat ok_X7_findPlan_0 (i := 2) (q := 3) rfl rfl) 2 rfl rfl <|
    V_cv1 (ct_X0_formOf I L r1 a2 hr1) mo_X0_formOf (tat ok_X7_findPlan_0 (i := 3) (q := 6) rfl rfl) ml_X7_34 hr1 ⟨by decide, _, rfl, rfl⟩ ⟨(Nat.le_of_ble_eq_true rfl), (Nat.le_of_ble_eq_true rfl)⟩ ⟨(Nat.le_of_ble_eq_true rfl), (Nat.le_of_ble_eq_true rfl)⟩ (Nat.le_of_ble_eq_true rfl) <|
    V_lconst (v := 0) (tat ok_X7_findPlan_0 (i := 4) (q := 7) rfl rfl) rfl <|
    V_lcmp (tat ok_X7_findPlan_0 (i := 5) (q := 8) rfl rfl) <|
    V_if_ne (tat ok_X7_findPlan_0 (i := 6) (q := 11) rfl rfl) rfl (fun c1 => V_iconst (tat ok_X7_findPlan_0 (i := 9) (q := 16) rfl rfl) ic_0 <|
    V_X7_findPlan_16 hr1 rfl hr (jx (P := P) kk (if_neg c1))) (fun c1 => V_iconst (tat ok_X7_findPlan_0 (i := 7) (q := 12) rfl rfl) ic_1 <|
    V_goto (tat ok_X7_findPlan_0 (i := 8) (q := 15) rfl rfl) rfl <|
    V_X7_findPlan_16 hr1 rfl hr (jx (P := P) kk (if_pos c1)))
theorem ct_X7_findPlan  (I : WI) (L : WL) (r1 : Nat) (a2 : Int64) (hr1 : isX0 r1) : Ct x_X7_findPlan 6 [.ref 27, .ref r1, .long a2] ly0 I L R0 0 0 (none, ly0, (F_X7_findPlan I r1 a2), L, R0) :=
  Ct_of_V mo_X7_findPlan.1 (Nat.le_of_ble_eq_true rfl) (V_X7_findPlan (P := fun x => x = (F_X7_findPlan I r1 a2)) hr1 (fun _ e => by rw [e]) rfl)
def F_X7_tryRows_52_1 (I : WI) (r1 : Nat) (a2 : Int32) (a3 : Int64) (a7 : Int32) (a5 : Int32) (a6 : Int32) (a8 : Int32) : (Int32 × Int32) :=
  (a5, (a6 + (if ((I r1 1) - a8) < a8 then ((I r1 1) - a8) else a8)))
theorem V_X7_tryRows_52_1  {I : WI} {L : WL} {r1 : Nat} {a2 : Int32} {a3 : Int64} {a7 : Int32} {a5 : Int32} {a6 : Int32} {a8 : Int32} {P : (Int32 × Int32) → Prop} {t : Tg} (hr1 : isX0 r1) (hk : ∀ x : (Int32 × Int32), P x → V (zM x_X7_tryRows 4 0 0 t) 9 [(0, .ref 27), (1, .ref r1), (2, .int a2), (3, .long a3), (5, .int (p1 x)), (6, .int (p2 x)), (7, .int (a7 + 1))] [] ly0 I L R0 0 0) (kk : P (F_X7_tryRows_52_1 I r1 a2 a3 a7 a5 a6 a8)) : V (zM x_X7_tryRows 4 0 0 t) 52 [(0, .ref 27), (1, .ref r1), (2, .int a2), (3, .long a3), (5, .int a5), (6, .int a6), (7, .int a7), (8, .int a8)] [] ly0 I L R0 0 0 :=
  V_iload (tat ok_X7_tryRows_0 (i := 30) (q := 54) rfl rfl) 5 rfl <|
    V_iload (tat ok_X7_tryRows_0 (i := 31) (q := 56) rfl rfl) 7 rfl <|
    V_aload_n (tat ok_X7_tryRows_0 (i := 32) (q := 57) rfl rfl) 1 rfl rfl <|
    V_getI (tat ok_X7_tryRows_0 (i := 33) (q := 60) rfl rfl) fk_X7_62 hr1 <|
    V_iload (tat ok_X7_tryRows_0 (i := 34) (q := 62) rfl rfl) 7 rfl <|
    V_isub (tat ok_X7_tryRows_0 (i := 35) (q := 63) rfl rfl) <|
    V_min (tat ok_X7_tryRows_0 (i := 36) (q := 66) rfl rfl) mm_li_X7_86 mm_min_st mm_min_co mm_ini ⟨(Nat.le_of_ble_eq_true rfl), (Nat.le_of_ble_eq_true rfl)⟩ ⟨(Nat.le_of_ble_eq_true rfl), (Nat.le_of_ble_eq_true rfl)⟩ <|
    V_iadd (tat ok_X7_tryRows_0 (i := 37) (q := 67) rfl rfl) <|
    V_istore (lv' := [(6, .int (a6 + (if ((I r1 1) - a8) < a8 then ((I r1 1) - a8) else a8))), (0, .ref 27), (1, .ref r1), (2, .int a2), (3, .long a3), (5, .int a5), (7, .int a7), (8, .int a8)]) (tat ok_X7_tryRows_0 (i := 38) (q := 69) rfl rfl) (Nat.le_of_ble_eq_true rfl) rfl <|
    V_iinc (v := (a7 + 1)) (lv' := [(7, .int (a7 + 1)), (6, .int (a6 + (if ((I r1 1) - a8) < a8 then ((I r1 1) - a8) else a8))), (0, .ref 27), (1, .ref r1), (2, .int a2), (3, .long a3), (5, .int a5), (8, .int a8)]) (tat ok_X7_tryRows_0 (i := 39) (q := 72) rfl rfl) 6 rfl (ia ic_1) (Nat.le_of_ble_eq_true rfl) rfl <|
    V_goto (tat ok_X7_tryRows_1 (i := 0) (q := 75) rfl rfl) rfl <|
    V_pick [2, 3, 4, 5, 6, 1, 0] rfl (hk (a5, (a6 + (if ((I r1 1) - a8) < a8 then ((I r1 1) - a8) else a8))) (jx (P := P) kk rfl))
def F_X7_tryRows_18_1 (I : WI) (r1 : Nat) (a2 : Int32) (a3 : Int64) (a7 : Int32) (a5 : Int32) (a6 : Int32) : (Int32 × Int32) :=
  (if (2 * (F_J13_bitCount_95d88 (a3 &&& (F_X0_squaresOf I r1 1 a7)))) ≤ (I r1 1) then (F_X7_tryRows_52_1 I r1 a2 a3 a7 a5 a6 (F_J13_bitCount_95d88 (a3 &&& (F_X0_squaresOf I r1 1 a7)))) else (F_X7_tryRows_52_1 I r1 a2 a3 a7 (a5 ||| (1 <<< (a7 &&& 31))) a6 (F_J13_bitCount_95d88 (a3 &&& (F_X0_squaresOf I r1 1 a7)))))
theorem V_X7_tryRows_18_1  {I : WI} {L : WL} {r1 : Nat} {a2 : Int32} {a3 : Int64} {a7 : Int32} {a5 : Int32} {a6 : Int32} {P : (Int32 × Int32) → Prop} {t : Tg} (hr1 : isX0 r1) (hk : ∀ x : (Int32 × Int32), P x → V (zM x_X7_tryRows 4 0 0 t) 9 [(0, .ref 27), (1, .ref r1), (2, .int a2), (3, .long a3), (5, .int (p1 x)), (6, .int (p2 x)), (7, .int (a7 + 1))] [] ly0 I L R0 0 0) (kk : P (F_X7_tryRows_18_1 I r1 a2 a3 a7 a5 a6)) : V (zM x_X7_tryRows 4 0 0 t) 18 [(0, .ref 27), (1, .ref r1), (2, .int a2), (3, .long a3), (5, .int a5), (6, .int a6), (7, .int a7)] [] ly0 I L R0 0 0 :=
  V_lload_n (tat ok_X7_tryRows_0 (i := 10) (q := 19) rfl rfl) 3 rfl rfl <|
    V_aload_n (tat ok_X7_tryRows_0 (i := 11) (q := 20) rfl rfl) 1 rfl rfl <|
    V_iconst (tat ok_X7_tryRows_0 (i := 12) (q := 21) rfl rfl) ic_1 <|
    V_iload (tat ok_X7_tryRows_0 (i := 13) (q := 23) rfl rfl) 6 rfl <|
    V_cv2 (ct_X0_squaresOf I L r1 1 a7 hr1) mo_X0_squaresOf (tat ok_X7_tryRows_0 (i := 14) (q := 26) rfl rfl) ml_X7_79 hr1 ⟨by decide, _, rfl, rfl⟩ ⟨(Nat.le_of_ble_eq_true rfl), (Nat.le_of_ble_eq_true rfl)⟩ ⟨(Nat.le_of_ble_eq_true rfl), (Nat.le_of_ble_eq_true rfl)⟩ (Nat.le_of_ble_eq_true rfl) <|
    V_land (tat ok_X7_tryRows_0 (i := 15) (q := 27) rfl rfl) <|
    V_cs1 (ct_J13_bitCount_95d88 I L (a3 &&& (F_X0_squaresOf I r1 1 a7)) ) mo_J13_bitCount_95d88 (tat ok_X7_tryRows_0 (i := 16) (q := 30) rfl rfl) ml_X7_82 ⟨(Nat.le_of_ble_eq_true rfl), (Nat.le_of_ble_eq_true rfl)⟩ ⟨(Nat.le_of_ble_eq_true rfl), (Nat.le_of_ble_eq_true rfl)⟩ (Nat.le_of_ble_eq_true rfl) <|
    V_istore (lv' := [(8, .int (F_J13_bitCount_95d88 (a3 &&& (F_X0_squaresOf I r1 1 a7)))), (0, .ref 27), (1, .ref r1), (2, .int a2), (3, .long a3), (5, .int a5), (6, .int a6), (7, .int a7)]) (tat ok_X7_tryRows_0 (i := 17) (q := 32) rfl rfl) (Nat.le_of_ble_eq_true rfl) rfl <|
    V_iconst (tat ok_X7_tryRows_0 (i := 18) (q := 33) rfl rfl) ic_2 <|
    V_iload (tat ok_X7_tryRows_0 (i := 19) (q := 35) rfl rfl) 0 rfl <|
    V_imul (tat ok_X7_tryRows_0 (i := 20) (q := 36) rfl rfl) <|
    V_aload_n (tat ok_X7_tryRows_0 (i := 21) (q := 37) rfl rfl) 2 rfl rfl <|
    V_getI (tat ok_X7_tryRows_0 (i := 22) (q := 40) rfl rfl) fk_X7_62 hr1 <|
    V_icmp_le (tat ok_X7_tryRows_0 (i := 23) (q := 43) rfl rfl) rfl (fun c1 => V_pick [1, 2, 3, 4, 5, 6, 7, 0] rfl (V_X7_tryRows_52_1 hr1 hk (jx (P := P) kk (if_pos c1)))) (fun c1 => V_iload (tat ok_X7_tryRows_0 (i := 24) (q := 45) rfl rfl) 5 rfl <|
    V_iconst (tat ok_X7_tryRows_0 (i := 25) (q := 46) rfl rfl) ic_1 <|
    V_iload (tat ok_X7_tryRows_0 (i := 26) (q := 48) rfl rfl) 7 rfl <|
    V_ishl (tat ok_X7_tryRows_0 (i := 27) (q := 49) rfl rfl) <|
    V_ior (tat ok_X7_tryRows_0 (i := 28) (q := 50) rfl rfl) <|
    V_istore (lv' := [(5, .int (a5 ||| (1 <<< (a7 &&& 31)))), (8, .int (F_J13_bitCount_95d88 (a3 &&& (F_X0_squaresOf I r1 1 a7)))), (0, .ref 27), (1, .ref r1), (2, .int a2), (3, .long a3), (6, .int a6), (7, .int a7)]) (tat ok_X7_tryRows_0 (i := 29) (q := 52) rfl rfl) (Nat.le_of_ble_eq_true rfl) rfl <|
    V_pick [2, 3, 4, 5, 0, 6, 7, 1] rfl (V_X7_tryRows_52_1 hr1 hk (jx (P := P) kk (if_neg c1))))
def F_X7_tryRows_110 (I : WI) (r1 : Nat) (a2 : Int32) (a3 : Int64) : WI :=
  I
theorem V_X7_tryRows_110  {I : WI} {L : WL} {r1 : Nat} {a2 : Int32} {a3 : Int64}  {P : WI → Prop} {t : Tg} (hr1 : isX0 r1) (hr : ∀ v, P v → t = (none, ly0, v, L, R0)) (kk : P (F_X7_tryRows_110 I r1 a2 a3)) : V (zM x_X7_tryRows 4 0 0 t) 110 [(0, .ref 27), (1, .ref r1), (2, .int a2), (3, .long a3)] [] ly0 I L R0 0 0 :=
  V_vret (tat ok_X7_tryRows_1 (i := 19) (q := 111) rfl rfl) rfl (hr I (jx (P := P) kk rfl)) ⟨(Nat.le_of_ble_eq_true rfl), (Nat.le_of_ble_eq_true rfl)⟩
def F_X7_tryRows_91 (I : WI) (r1 : Nat) (a2 : Int32) (a3 : Int64) (a5 : Int32) (a6 : Int32) : WI :=
  (F_X7_tryRows_110 (u2 (F_X7_take (u2 I 27 0 1) a2 a5 0) 27 4 a6) r1 a2 a3)
theorem V_X7_tryRows_91  {I : WI} {L : WL} {r1 : Nat} {a2 : Int32} {a3 : Int64} {a5 : Int32} {a6 : Int32} {P : WI → Prop} {t : Tg} (hr1 : isX0 r1) (hr : ∀ v, P v → t = (none, ly0, v, L, R0)) (kk : P (F_X7_tryRows_91 I r1 a2 a3 a5 a6)) : V (zM x_X7_tryRows 4 0 0 t) 91 [(0, .ref 27), (1, .ref r1), (2, .int a2), (3, .long a3), (5, .int a5), (6, .int a6)] [] ly0 I L R0 0 0 :=
  V_aload_n (tat ok_X7_tryRows_1 (i := 8) (q := 92) rfl rfl) 0 rfl rfl <|
    V_iconst (tat ok_X7_tryRows_1 (i := 9) (q := 93) rfl rfl) ic_1 <|
    V_putZ (tat ok_X7_tryRows_1 (i := 10) (q := 96) rfl rfl) fk_X7_40 rfl rfl rfl <|
    V_aload_n (tat ok_X7_tryRows_1 (i := 11) (q := 97) rfl rfl) 0 rfl rfl <|
    V_iload_n (tat ok_X7_tryRows_1 (i := 12) (q := 98) rfl rfl) 2 rfl rfl <|
    V_iload (tat ok_X7_tryRows_1 (i := 13) (q := 100) rfl rfl) 4 rfl <|
    V_iconst (tat ok_X7_tryRows_1 (i := 14) (q := 101) rfl rfl) ic_0 <|
    V_cv3v (ct_X7_take (u2 I 27 0 1) L a2 a5 0 ) mo_X7_take (tat ok_X7_tryRows_1 (i := 15) (q := 104) rfl rfl) ml_X7_51 rfl ⟨by decide, _, rfl, rfl⟩ ⟨(Nat.le_of_ble_eq_true rfl), (Nat.le_of_ble_eq_true rfl)⟩ ⟨(Nat.le_of_ble_eq_true rfl), (Nat.le_of_ble_eq_true rfl)⟩ (Nat.le_of_ble_eq_true rfl) <|
    V_aload_n (tat ok_X7_tryRows_1 (i := 16) (q := 105) rfl rfl) 0 rfl rfl <|
    V_iload (tat ok_X7_tryRows_1 (i := 17) (q := 107) rfl rfl) 5 rfl <|
    V_putI (tat ok_X7_tryRows_1 (i := 18) (q := 110) rfl rfl) fk_X7_92 rfl rfl <|
    V_pick [0, 1, 2, 3] rfl (V_X7_tryRows_110 hr1 hr (jx (P := P) kk rfl))
def F_X7_tryRows_75 (I : WI) (r1 : Nat) (a2 : Int32) (a3 : Int64) (a5 : Int32) (a6 : Int32) : WI :=
  (if (bz (I 27 0)) = 0 then (F_X7_tryRows_91 I r1 a2 a3 a5 a6) else (if (I 27 4) ≤ a6 then (F_X7_tryRows_110 I r1 a2 a3) else (F_X7_tryRows_91 I r1 a2 a3 a5 a6)))
theorem V_X7_tryRows_75  {I : WI} {L : WL} {r1 : Nat} {a2 : Int32} {a3 : Int64} {a5 : Int32} {a6 : Int32} {P : WI → Prop} {t : Tg} (hr1 : isX0 r1) (hr : ∀ v, P v → t = (none, ly0, v, L, R0)) (kk : P (F_X7_tryRows_75 I r1 a2 a3 a5 a6)) : V (zM x_X7_tryRows 4 0 0 t) 75 [(0, .ref 27), (1, .ref r1), (2, .int a2), (3, .long a3), (5, .int a5), (6, .int a6)] [] ly0 I L R0 0 0 :=
  V_aload_n (tat ok_X7_tryRows_1 (i := 1) (q := 76) rfl rfl) 0 rfl rfl <|
    V_getZ (tat ok_X7_tryRows_1 (i := 2) (q := 79) rfl rfl) fk_X7_40 rfl <|
    V_if_eq (tat ok_X7_tryRows_1 (i := 3) (q := 82) rfl rfl) rfl (fun c2 => V_X7_tryRows_91 hr1 hr (jx (P := P) kk (if_pos c2))) (fun c2 => V_iload (tat ok_X7_tryRows_1 (i := 4) (q := 84) rfl rfl) 5 rfl <|
    V_aload_n (tat ok_X7_tryRows_1 (i := 5) (q := 85) rfl rfl) 0 rfl rfl <|
    V_getI (tat ok_X7_tryRows_1 (i := 6) (q := 88) rfl rfl) fk_X7_92 rfl <|
    V_icmp_ge (tat ok_X7_tryRows_1 (i := 7) (q := 91) rfl rfl) rfl (fun c3 => V_pick [0, 1, 2, 3] rfl (V_X7_tryRows_110 hr1 hr (jx (P := P) kk (Eq.trans (if_neg c2) (if_pos c3))))) (fun c3 => V_X7_tryRows_91 hr1 hr (jx (P := P) kk (Eq.trans (if_neg c2) (if_neg c3)))))
def F_X7_tryRows_9 (I : WI) (r1 : Nat) (a2 : Int32) (a3 : Int64) (a5 : Int32) (a6 : Int32) (a7 : Int32) : WI :=
  (fun q : Int32 × (Int32 × Int32) => (F_X7_tryRows_75 I r1 a2 a3 (p1 (p2 q)) (p2 (p2 q)))) (fr0 (fun i x => (F_X7_tryRows_18_1 I r1 a2 a3 i (p1 x) (p2 x))) (I r1 2) (fu a7 (I r1 2)) a7 (a5, a6))
theorem V_X7_tryRows_9  {I : WI} {L : WL} {r1 : Nat} {a2 : Int32} {a3 : Int64} {a5 : Int32} {a6 : Int32} {a7 : Int32} {P : WI → Prop} {t : Tg} (hr1 : isX0 r1) (hb5 : bz a5 = a5) (hb6 : bz a6 = a6) (hb7 : bz a7 = a7) (hr : ∀ v, P v → t = (none, ly0, v, L, R0)) (kk : P (F_X7_tryRows_9 I r1 a2 a3 a5 a6 a7)) : V (zM x_X7_tryRows 4 0 0 t) 9 [(0, .ref 27), (1, .ref r1), (2, .int a2), (3, .long a3), (5, .int a5), (6, .int a6), (7, .int a7)] [] ly0 I L R0 0 0 :=
  V_fr0 (fun i x => (F_X7_tryRows_18_1 I r1 a2 a3 i (p1 x) (p2 x))) (I r1 2) (fun i x => V (zM x_X7_tryRows 4 0 0 t) 9 [(0, .ref 27), (1, .ref r1), (2, .int a2), (3, .long a3), (5, .int (p1 x)), (6, .int (p2 x)), (7, .int i)] [] ly0 I L R0 0 0) (fun i x => P ((F_X7_tryRows_75 I r1 a2 a3 (p1 x) (p2 x)))) (c := a7) (s := (a5, a6)) (fun i x kx kb => V_iload (tat ok_X7_tryRows_0 (i := 6) (q := 11) rfl rfl) 6 rfl <|
    V_aload_n (tat ok_X7_tryRows_0 (i := 7) (q := 12) rfl rfl) 1 rfl rfl <|
    V_getI (tat ok_X7_tryRows_0 (i := 8) (q := 15) rfl rfl) fk_X7_65 hr1 <|
    V_icmp_ge (tat ok_X7_tryRows_0 (i := 9) (q := 18) rfl rfl) rfl (fun c0 => V_pick [0, 1, 2, 3, 4, 5] rfl (V_X7_tryRows_75 hr1 hr (kx c0))) (fun c0 => V_X7_tryRows_18_1 (P := (fun x => (fun i x => V (zM x_X7_tryRows 4 0 0 t) 9 [(0, .ref 27), (1, .ref r1), (2, .int a2), (3, .long a3), (5, .int (p1 x)), (6, .int (p2 x)), (7, .int i)] [] ly0 I L R0 0 0) (i + 1) x)) hr1 (fun _ e => e) (kb c0))) kk
def F_X7_tryRows (I : WI) (r1 : Nat) (a2 : Int32) (a3 : Int64) : WI :=
  (F_X7_tryRows_9 I r1 a2 a3 0 0 0)
theorem V_X7_tryRows  {I : WI} {L : WL} {r1 : Nat} {a2 : Int32} {a3 : Int64}  {P : WI → Prop} {t : Tg} (hr1 : isX0 r1) (hr : ∀ v, P v → t = (none, ly0, v, L, R0)) (kk : P (F_X7_tryRows I r1 a2 a3)) : V (zM x_X7_tryRows 4 0 0 t) 0 [(0, .ref 27), (1, .ref r1), (2, .int a2), (3, .long a3)] [] ly0 I L R0 0 0 :=
  V_iconst (tat ok_X7_tryRows_0 (i := 0) (q := 1) rfl rfl) ic_0 <|
    V_istore (lv' := [(5, .int 0), (0, .ref 27), (1, .ref r1), (2, .int a2), (3, .long a3)]) (tat ok_X7_tryRows_0 (i := 1) (q := 3) rfl rfl) (Nat.le_of_ble_eq_true rfl) rfl <|
    V_iconst (tat ok_X7_tryRows_0 (i := 2) (q := 4) rfl rfl) ic_0 <|
    V_istore (lv' := [(6, .int 0), (5, .int 0), (0, .ref 27), (1, .ref r1), (2, .int a2), (3, .long a3)]) (tat ok_X7_tryRows_0 (i := 3) (q := 6) rfl rfl) (Nat.le_of_ble_eq_true rfl) rfl <|
    V_iconst (tat ok_X7_tryRows_0 (i := 4) (q := 7) rfl rfl) ic_0 <|
    V_istore (lv' := [(7, .int 0), (6, .int 0), (5, .int 0), (0, .ref 27), (1, .ref r1), (2, .int a2), (3, .long a3)]) (tat ok_X7_tryRows_0 (i := 5) (q := 9) rfl rfl) (Nat.le_of_ble_eq_true rfl) rfl <|
    V_pick [3, 4, 5, 6, 2, 1, 0] rfl (V_X7_tryRows_9 hr1 rfl rfl rfl hr (jx (P := P) kk rfl))
theorem ct_X7_tryRows  (I : WI) (L : WL) (r1 : Nat) (a2 : Int32) (a3 : Int64) (hr1 : isX0 r1) : Ct x_X7_tryRows 4 [.ref 27, .ref r1, .int a2, .long a3] ly0 I L R0 0 0 (none, ly0, (F_X7_tryRows I r1 a2 a3), L, R0) :=
  Ct_of_V mo_X7_tryRows.1 (Nat.le_of_ble_eq_true rfl) (V_X7_tryRows (P := fun x => x = (F_X7_tryRows I r1 a2 a3)) hr1 (fun _ e => by rw [e]) rfl)
def F_X7_findNearest_8_1 (I : WI) (r1 : Nat) (a2 : Int64) (a4 : Int32) : Option (WI ⊕ (Int32 × WI)) :=
  (if (F_X0_everyRow I r1) < a4 then some (.inl I) else some (.inr ((a4 + 1), (F_X7_tryRows I r1 a4 (a2 ^^^ (F_X0_squaresTurned I r1 a4 0))))))
theorem V_X7_findNearest_8_1  {I : WI} {L : WL} {r1 : Nat} {a2 : Int64} {a4 : Int32} {P : (WI ⊕ (Int32 × WI)) → Prop} {t : Tg} (hr1 : isX0 r1) (he : ∀ x : WI, P (.inl x) → V (zM x_X7_findNearest 5 0 0 t) 39 [(0, .ref 27), (1, .ref r1), (2, .long a2)] [] ly0 x L R0 0 0) (hk : ∀ x : (Int32 × WI), P (.inr x) → V (zM x_X7_findNearest 5 0 0 t) 8 [(0, .ref 27), (1, .ref r1), (2, .long a2), (4, .int (p1 x))] [] ly0 (p2 x) L R0 0 0) (kk : oP P (F_X7_findNearest_8_1 I r1 a2 a4)) : V (zM x_X7_findNearest 5 0 0 t) 8 [(0, .ref 27), (1, .ref r1), (2, .long a2), (4, .int a4)] [] ly0 I L R0 0 0 :=
  V_iload (tat ok_X7_findNearest_0 (i := 5) (q := 10) rfl rfl) 3 rfl <|
    V_aload_n (tat ok_X7_findNearest_0 (i := 6) (q := 11) rfl rfl) 1 rfl rfl <|
    V_cv0 (ct_X0_everyRow I L r1 hr1) mo_X0_everyRow (tat ok_X7_findNearest_0 (i := 7) (q := 14) rfl rfl) ml_X7_55 hr1 ⟨by decide, _, rfl, rfl⟩ ⟨(Nat.le_of_ble_eq_true rfl), (Nat.le_of_ble_eq_true rfl)⟩ ⟨(Nat.le_of_ble_eq_true rfl), (Nat.le_of_ble_eq_true rfl)⟩ (Nat.le_of_ble_eq_true rfl) <|
    V_icmp_gt (tat ok_X7_findNearest_0 (i := 8) (q := 17) rfl rfl) rfl (fun c1 => V_pick [0, 1, 2] rfl (he I (jx (P := oP P) kk (if_pos c1)))) (fun c1 => V_aload_n (tat ok_X7_findNearest_0 (i := 9) (q := 18) rfl rfl) 0 rfl rfl <|
    V_aload_n (tat ok_X7_findNearest_0 (i := 10) (q := 19) rfl rfl) 1 rfl rfl <|
    V_iload (tat ok_X7_findNearest_0 (i := 11) (q := 21) rfl rfl) 3 rfl <|
    V_lload_n (tat ok_X7_findNearest_0 (i := 12) (q := 22) rfl rfl) 2 rfl rfl <|
    V_aload_n (tat ok_X7_findNearest_0 (i := 13) (q := 23) rfl rfl) 1 rfl rfl <|
    V_iload (tat ok_X7_findNearest_0 (i := 14) (q := 25) rfl rfl) 3 rfl <|
    V_iconst (tat ok_X7_findNearest_0 (i := 15) (q := 26) rfl rfl) ic_0 <|
    V_cv2 (ct_X0_squaresTurned I L r1 a4 0 hr1) mo_X0_squaresTurned (tat ok_X7_findNearest_0 (i := 16) (q := 29) rfl rfl) ml_X7_71 hr1 ⟨by decide, _, rfl, rfl⟩ ⟨(Nat.le_of_ble_eq_true rfl), (Nat.le_of_ble_eq_true rfl)⟩ ⟨(Nat.le_of_ble_eq_true rfl), (Nat.le_of_ble_eq_true rfl)⟩ (Nat.le_of_ble_eq_true rfl) <|
    V_lxor (tat ok_X7_findNearest_0 (i := 17) (q := 30) rfl rfl) <|
    V_cv3v (ct_X7_tryRows I L r1 a4 (a2 ^^^ (F_X0_squaresTurned I r1 a4 0)) hr1) mo_X7_tryRows (tat ok_X7_findNearest_0 (i := 18) (q := 33) rfl rfl) ml_X7_75 rfl ⟨by decide, _, rfl, rfl⟩ ⟨(Nat.le_of_ble_eq_true rfl), (Nat.le_of_ble_eq_true rfl)⟩ ⟨(Nat.le_of_ble_eq_true rfl), (Nat.le_of_ble_eq_true rfl)⟩ (Nat.le_of_ble_eq_true rfl) <|
    V_iinc (v := (a4 + 1)) (lv' := [(4, .int (a4 + 1)), (0, .ref 27), (1, .ref r1), (2, .long a2)]) (tat ok_X7_findNearest_0 (i := 19) (q := 36) rfl rfl) 3 rfl (ia ic_1) (Nat.le_of_ble_eq_true rfl) rfl <|
    V_goto (tat ok_X7_findNearest_0 (i := 20) (q := 39) rfl rfl) rfl <|
    V_pick [1, 2, 3, 0] rfl (hk ((a4 + 1), (F_X7_tryRows I r1 a4 (a2 ^^^ (F_X0_squaresTurned I r1 a4 0)))) (jx (P := oP P) kk (if_neg c1))))
def F_X7_findNearest_39 (I : WI) (r1 : Nat) (a2 : Int64) : Option WI :=
  some I
theorem V_X7_findNearest_39  {I : WI} {L : WL} {r1 : Nat} {a2 : Int64}  {P : WI → Prop} {t : Tg} (hr1 : isX0 r1) (hr : ∀ v, P v → t = (none, ly0, v, L, R0)) (kk : oP P (F_X7_findNearest_39 I r1 a2)) : V (zM x_X7_findNearest 5 0 0 t) 39 [(0, .ref 27), (1, .ref r1), (2, .long a2)] [] ly0 I L R0 0 0 :=
  V_vret (tat ok_X7_findNearest_0 (i := 21) (q := 40) rfl rfl) rfl (hr I (jx (P := oP P) kk rfl)) ⟨(Nat.le_of_ble_eq_true rfl), (Nat.le_of_ble_eq_true rfl)⟩
def F_X7_findNearest_8 (I : WI) (r1 : Nat) (a2 : Int64) (a4 : Int32) : Option WI :=
  (lpp (fun x => (F_X7_findNearest_8_1 (p2 x) r1 a2 (p1 x))) 4294967296 (a4, I)).bind (fun q => (F_X7_findNearest_39 q r1 a2))
theorem V_X7_findNearest_8  {I : WI} {L : WL} {r1 : Nat} {a2 : Int64} {a4 : Int32} {P : WI → Prop} {t : Tg} (hr1 : isX0 r1) (hb4 : bz a4 = a4) (hr : ∀ v, P v → t = (none, ly0, v, L, R0)) (kk : oP P (F_X7_findNearest_8 I r1 a2 a4)) : V (zM x_X7_findNearest 5 0 0 t) 8 [(0, .ref 27), (1, .ref r1), (2, .long a2), (4, .int a4)] [] ly0 I L R0 0 0 :=
  V_lpp (fun x => (F_X7_findNearest_8_1 (p2 x) r1 a2 (p1 x))) (fun x => V (zM x_X7_findNearest 5 0 0 t) 8 [(0, .ref 27), (1, .ref r1), (2, .long a2), (4, .int (p1 x))] [] ly0 (p2 x) L R0 0 0) (fun x => oP P ((F_X7_findNearest_39 x r1 a2))) (s := (a4, I)) (fun x e0 => V_X7_findNearest_8_1 (P := Sum.elim (fun x => oP P ((F_X7_findNearest_39 x r1 a2))) (fun x => V (zM x_X7_findNearest 5 0 0 t) 8 [(0, .ref 27), (1, .ref r1), (2, .long a2), (4, .int (p1 x))] [] ly0 (p2 x) L R0 0 0)) hr1 (fun x e => V_X7_findNearest_39 hr1 hr e) (fun _ e => e) e0) (oP_bind (f := fun q => _) kk)
def F_X7_findNearest (I : WI) (r1 : Nat) (a2 : Int64) : Option WI :=
  (F_X7_findNearest_8 (u2 I 27 0 0) r1 a2 0)
theorem V_X7_findNearest  {I : WI} {L : WL} {r1 : Nat} {a2 : Int64}  {P : WI → Prop} {t : Tg} (hr1 : isX0 r1) (hr : ∀ v, P v → t = (none, ly0, v, L, R0)) (kk : oP P (F_X7_findNearest I r1 a2)) : V (zM x_X7_findNearest 5 0 0 t) 0 [(0, .ref 27), (1, .ref r1), (2, .long a2)] [] ly0 I L R0 0 0 :=
  V_aload_n (tat ok_X7_findNearest_0 (i := 0) (q := 1) rfl rfl) 0 rfl rfl <|
    V_iconst (tat ok_X7_findNearest_0 (i := 1) (q := 2) rfl rfl) ic_0 <|
    V_putZ (tat ok_X7_findNearest_0 (i := 2) (q := 5) rfl rfl) fk_X7_40 rfl rfl rfl <|
    V_iconst (tat ok_X7_findNearest_0 (i := 3) (q := 6) rfl rfl) ic_0 <|
    V_istore (lv' := [(4, .int 0), (0, .ref 27), (1, .ref r1), (2, .long a2)]) (tat ok_X7_findNearest_0 (i := 4) (q := 8) rfl rfl) (Nat.le_of_ble_eq_true rfl) rfl <|
    V_pick [1, 2, 3, 0] rfl (V_X7_findNearest_8 hr1 rfl hr (jx (P := oP P) kk rfl))
theorem ct_X7_findNearest  (I : WI) (L : WL) (r1 : Nat) (a2 : Int64) (hr1 : isX0 r1) {v : WI} (h : (F_X7_findNearest I r1 a2) = some v) : Ct x_X7_findNearest 5 [.ref 27, .ref r1, .long a2] ly0 I L R0 0 0 (none, ly0, v, L, R0) :=
  Ct_of_V mo_X7_findNearest.1 (Nat.le_of_ble_eq_true rfl) (V_X7_findNearest (P := fun x => x = v) hr1 (fun _ e => by rw [e]) (by rw [h]; exact rfl))
def F_X7_mostUnlike_64_1 (I : WI) (r0 : Nat) (a1 : Int32) (a2 : Int64) (a6 : Int32) (a4 : Int32) (a5 : Int32) : (Int32 × Int32) :=
  (a4, a5)
theorem V_X7_mostUnlike_64_1  {I : WI} {L : WL} {r0 : Nat} {a1 : Int32} {a2 : Int64} {a6 : Int32} {a4 : Int32} {a5 : Int32} {P : (Int32 × Int32) → Prop} {t : Tg} (hr0 : isX0 r0) (hk : ∀ x : (Int32 × Int32), P x → V (zM x_X7_mostUnlike 4 0 0 t) 9 [(0, .ref r0), (1, .int a1), (2, .long a2), (4, .int (p1 x)), (5, .int (p2 x)), (6, .int (a6 + 1))] [] ly0 I L R0 0 0) (kk : P (F_X7_mostUnlike_64_1 I r0 a1 a2 a6 a4 a5)) : V (zM x_X7_mostUnlike 4 0 0 t) 64 [(0, .ref r0), (1, .int a1), (2, .long a2), (4, .int a4), (5, .int a5), (6, .int a6)] [] ly0 I L R0 0 0 :=
  V_iinc (v := (a6 + 1)) (lv' := [(6, .int (a6 + 1)), (0, .ref r0), (1, .int a1), (2, .long a2), (4, .int a4), (5, .int a5)]) (tat ok_X7_mostUnlike_0 (i := 34) (q := 67) rfl rfl) 5 rfl (ia ic_1) (Nat.le_of_ble_eq_true rfl) rfl <|
    V_goto (tat ok_X7_mostUnlike_0 (i := 35) (q := 70) rfl rfl) rfl <|
    V_pick [1, 2, 3, 4, 5, 0] rfl (hk (a4, a5) (jx (P := P) kk rfl))
def F_X7_mostUnlike_19_1 (I : WI) (r0 : Nat) (a1 : Int32) (a2 : Int64) (a6 : Int32) (a4 : Int32) (a5 : Int32) : (Int32 × Int32) :=
  (if (2 * (F_J13_bitCount_95d88 (a2 &&& (F_X0_squaresOf I r0 a1 a6)))) ≤ (F_J13_bitCount_95d88 (F_X0_squaresOf I r0 a1 a6)) then (F_X7_mostUnlike_64_1 I r0 a1 a2 a6 a4 a5) else (if (F_J13_bitCount_95d88 (a2 &&& (F_X0_squaresOf I r0 a1 a6))) ≤ a5 then (F_X7_mostUnlike_64_1 I r0 a1 a2 a6 a4 a5) else (F_X7_mostUnlike_64_1 I r0 a1 a2 a6 a6 (F_J13_bitCount_95d88 (a2 &&& (F_X0_squaresOf I r0 a1 a6))))))
theorem V_X7_mostUnlike_19_1  {I : WI} {L : WL} {r0 : Nat} {a1 : Int32} {a2 : Int64} {a6 : Int32} {a4 : Int32} {a5 : Int32} {P : (Int32 × Int32) → Prop} {t : Tg} (hr0 : isX0 r0) (hk : ∀ x : (Int32 × Int32), P x → V (zM x_X7_mostUnlike 4 0 0 t) 9 [(0, .ref r0), (1, .int a1), (2, .long a2), (4, .int (p1 x)), (5, .int (p2 x)), (6, .int (a6 + 1))] [] ly0 I L R0 0 0) (kk : P (F_X7_mostUnlike_19_1 I r0 a1 a2 a6 a4 a5)) : V (zM x_X7_mostUnlike 4 0 0 t) 19 [(0, .ref r0), (1, .int a1), (2, .long a2), (4, .int a4), (5, .int a5), (6, .int a6)] [] ly0 I L R0 0 0 :=
  V_aload_n (tat ok_X7_mostUnlike_0 (i := 11) (q := 20) rfl rfl) 0 rfl rfl <|
    V_iload_n (tat ok_X7_mostUnlike_0 (i := 12) (q := 21) rfl rfl) 1 rfl rfl <|
    V_iload (tat ok_X7_mostUnlike_0 (i := 13) (q := 23) rfl rfl) 5 rfl <|
    V_cv2 (ct_X0_squaresOf I L r0 a1 a6 hr0) mo_X0_squaresOf (tat ok_X7_mostUnlike_0 (i := 14) (q := 26) rfl rfl) ml_X7_79 hr0 ⟨by decide, _, rfl, rfl⟩ ⟨(Nat.le_of_ble_eq_true rfl), (Nat.le_of_ble_eq_true rfl)⟩ ⟨(Nat.le_of_ble_eq_true rfl), (Nat.le_of_ble_eq_true rfl)⟩ (Nat.le_of_ble_eq_true rfl) <|
    V_lstore (lv' := [(7, .long (F_X0_squaresOf I r0 a1 a6)), (0, .ref r0), (1, .int a1), (2, .long a2), (4, .int a4), (5, .int a5), (6, .int a6)]) (tat ok_X7_mostUnlike_0 (i := 15) (q := 28) rfl rfl) (Nat.le_of_ble_eq_true rfl) rfl <|
    V_lload_n (tat ok_X7_mostUnlike_0 (i := 16) (q := 29) rfl rfl) 3 rfl rfl <|
    V_lload (tat ok_X7_mostUnlike_0 (i := 17) (q := 31) rfl rfl) 0 rfl <|
    V_land (tat ok_X7_mostUnlike_0 (i := 18) (q := 32) rfl rfl) <|
    V_cs1 (ct_J13_bitCount_95d88 I L (a2 &&& (F_X0_squaresOf I r0 a1 a6)) ) mo_J13_bitCount_95d88 (tat ok_X7_mostUnlike_0 (i := 19) (q := 35) rfl rfl) ml_X7_82 ⟨(Nat.le_of_ble_eq_true rfl), (Nat.le_of_ble_eq_true rfl)⟩ ⟨(Nat.le_of_ble_eq_true rfl), (Nat.le_of_ble_eq_true rfl)⟩ (Nat.le_of_ble_eq_true rfl) <|
    V_istore (lv' := [(9, .int (F_J13_bitCount_95d88 (a2 &&& (F_X0_squaresOf I r0 a1 a6)))), (7, .long (F_X0_squaresOf I r0 a1 a6)), (0, .ref r0), (1, .int a1), (2, .long a2), (4, .int a4), (5, .int a5), (6, .int a6)]) (tat ok_X7_mostUnlike_0 (i := 20) (q := 37) rfl rfl) (Nat.le_of_ble_eq_true rfl) rfl <|
    V_iconst (tat ok_X7_mostUnlike_0 (i := 21) (q := 38) rfl rfl) ic_2 <|
    V_iload (tat ok_X7_mostUnlike_0 (i := 22) (q := 40) rfl rfl) 0 rfl <|
    V_imul (tat ok_X7_mostUnlike_0 (i := 23) (q := 41) rfl rfl) <|
    V_lload (tat ok_X7_mostUnlike_0 (i := 24) (q := 43) rfl rfl) 1 rfl <|
    V_cs1 (ct_J13_bitCount_95d88 I L (F_X0_squaresOf I r0 a1 a6) ) mo_J13_bitCount_95d88 (tat ok_X7_mostUnlike_0 (i := 25) (q := 46) rfl rfl) ml_X7_82 ⟨(Nat.le_of_ble_eq_true rfl), (Nat.le_of_ble_eq_true rfl)⟩ ⟨(Nat.le_of_ble_eq_true rfl), (Nat.le_of_ble_eq_true rfl)⟩ (Nat.le_of_ble_eq_true rfl) <|
    V_icmp_le (tat ok_X7_mostUnlike_0 (i := 26) (q := 49) rfl rfl) rfl (fun c1 => V_pick [2, 3, 4, 5, 6, 7] rfl (V_X7_mostUnlike_64_1 hr0 hk (jx (P := P) kk (if_pos c1)))) (fun c1 => V_iload (tat ok_X7_mostUnlike_0 (i := 27) (q := 51) rfl rfl) 0 rfl <|
    V_iload (tat ok_X7_mostUnlike_0 (i := 28) (q := 53) rfl rfl) 6 rfl <|
    V_icmp_le (tat ok_X7_mostUnlike_0 (i := 29) (q := 56) rfl rfl) rfl (fun c2 => V_pick [2, 3, 4, 5, 6, 7] rfl (V_X7_mostUnlike_64_1 hr0 hk (jx (P := P) kk (Eq.trans (if_neg c1) (if_pos c2))))) (fun c2 => V_iload (tat ok_X7_mostUnlike_0 (i := 30) (q := 58) rfl rfl) 7 rfl <|
    V_istore (lv' := [(4, .int a6), (9, .int (F_J13_bitCount_95d88 (a2 &&& (F_X0_squaresOf I r0 a1 a6)))), (7, .long (F_X0_squaresOf I r0 a1 a6)), (0, .ref r0), (1, .int a1), (2, .long a2), (5, .int a5), (6, .int a6)]) (tat ok_X7_mostUnlike_0 (i := 31) (q := 60) rfl rfl) (Nat.le_of_ble_eq_true rfl) rfl <|
    V_iload (tat ok_X7_mostUnlike_0 (i := 32) (q := 62) rfl rfl) 1 rfl <|
    V_istore (lv' := [(5, .int (F_J13_bitCount_95d88 (a2 &&& (F_X0_squaresOf I r0 a1 a6)))), (4, .int a6), (9, .int (F_J13_bitCount_95d88 (a2 &&& (F_X0_squaresOf I r0 a1 a6)))), (7, .long (F_X0_squaresOf I r0 a1 a6)), (0, .ref r0), (1, .int a1), (2, .long a2), (6, .int a6)]) (tat ok_X7_mostUnlike_0 (i := 33) (q := 64) rfl rfl) (Nat.le_of_ble_eq_true rfl) rfl <|
    V_pick [4, 5, 6, 1, 0, 7] rfl (V_X7_mostUnlike_64_1 hr0 hk (jx (P := P) kk (Eq.trans (if_neg c1) (if_neg c2))))))
def F_X7_mostUnlike_70 (I : WI) (r0 : Nat) (a1 : Int32) (a2 : Int64) (a4 : Int32) : Int32 :=
  a4
theorem V_X7_mostUnlike_70  {I : WI} {L : WL} {r0 : Nat} {a1 : Int32} {a2 : Int64} {a4 : Int32} {P : Int32 → Prop} {t : Tg} (hr0 : isX0 r0) (hr : ∀ v, P v → t = (some (.int v), ly0, I, L, R0)) (kk : P (F_X7_mostUnlike_70 I r0 a1 a2 a4)) : V (zM x_X7_mostUnlike 4 0 0 t) 70 [(0, .ref r0), (1, .int a1), (2, .long a2), (4, .int a4)] [] ly0 I L R0 0 0 :=
  V_iload (tat ok_X7_mostUnlike_0 (i := 36) (q := 72) rfl rfl) 3 rfl <|
    V_iret (tat ok_X7_mostUnlike_0 (i := 37) (q := 73) rfl rfl) _ rfl (nar_int _) (hr a4 (jx (P := P) kk rfl)) ⟨(Nat.le_of_ble_eq_true rfl), (Nat.le_of_ble_eq_true rfl)⟩
def F_X7_mostUnlike_9 (I : WI) (r0 : Nat) (a1 : Int32) (a2 : Int64) (a4 : Int32) (a5 : Int32) (a6 : Int32) : Int32 :=
  (fun q : Int32 × (Int32 × Int32) => (F_X7_mostUnlike_70 I r0 a1 a2 (p1 (p2 q)))) (fr0 (fun i x => (F_X7_mostUnlike_19_1 I r0 a1 a2 i (p1 x) (p2 x))) (F_X0_linesOf I r0 a1) (fu a6 (F_X0_linesOf I r0 a1)) a6 (a4, a5))
theorem V_X7_mostUnlike_9  {I : WI} {L : WL} {r0 : Nat} {a1 : Int32} {a2 : Int64} {a4 : Int32} {a5 : Int32} {a6 : Int32} {P : Int32 → Prop} {t : Tg} (hr0 : isX0 r0) (hb5 : bz a5 = a5) (hb6 : bz a6 = a6) (hr : ∀ v, P v → t = (some (.int v), ly0, I, L, R0)) (kk : P (F_X7_mostUnlike_9 I r0 a1 a2 a4 a5 a6)) : V (zM x_X7_mostUnlike 4 0 0 t) 9 [(0, .ref r0), (1, .int a1), (2, .long a2), (4, .int a4), (5, .int a5), (6, .int a6)] [] ly0 I L R0 0 0 :=
  V_fr0 (fun i x => (F_X7_mostUnlike_19_1 I r0 a1 a2 i (p1 x) (p2 x))) (F_X0_linesOf I r0 a1) (fun i x => V (zM x_X7_mostUnlike 4 0 0 t) 9 [(0, .ref r0), (1, .int a1), (2, .long a2), (4, .int (p1 x)), (5, .int (p2 x)), (6, .int i)] [] ly0 I L R0 0 0) (fun i x => P ((F_X7_mostUnlike_70 I r0 a1 a2 (p1 x)))) (c := a6) (s := (a4, a5)) (fun i x kx kb => V_iload (tat ok_X7_mostUnlike_0 (i := 6) (q := 11) rfl rfl) 5 rfl <|
    V_aload_n (tat ok_X7_mostUnlike_0 (i := 7) (q := 12) rfl rfl) 0 rfl rfl <|
    V_iload_n (tat ok_X7_mostUnlike_0 (i := 8) (q := 13) rfl rfl) 1 rfl rfl <|
    V_cv1 (ct_X0_linesOf I L r0 a1 hr0) mo_X0_linesOf (tat ok_X7_mostUnlike_0 (i := 9) (q := 16) rfl rfl) ml_X7_102 hr0 ⟨by decide, _, rfl, rfl⟩ ⟨(Nat.le_of_ble_eq_true rfl), (Nat.le_of_ble_eq_true rfl)⟩ ⟨(Nat.le_of_ble_eq_true rfl), (Nat.le_of_ble_eq_true rfl)⟩ (Nat.le_of_ble_eq_true rfl) <|
    V_icmp_ge (tat ok_X7_mostUnlike_0 (i := 10) (q := 19) rfl rfl) rfl (fun c0 => V_pick [0, 1, 2, 3] rfl (V_X7_mostUnlike_70 hr0 hr (kx c0))) (fun c0 => V_X7_mostUnlike_19_1 (P := (fun x => (fun i x => V (zM x_X7_mostUnlike 4 0 0 t) 9 [(0, .ref r0), (1, .int a1), (2, .long a2), (4, .int (p1 x)), (5, .int (p2 x)), (6, .int i)] [] ly0 I L R0 0 0) (i + 1) x)) hr0 (fun _ e => e) (kb c0))) kk
def F_X7_mostUnlike (I : WI) (r0 : Nat) (a1 : Int32) (a2 : Int64) : Int32 :=
  (F_X7_mostUnlike_9 I r0 a1 a2 (-1) 0 0)
theorem V_X7_mostUnlike  {I : WI} {L : WL} {r0 : Nat} {a1 : Int32} {a2 : Int64}  {P : Int32 → Prop} {t : Tg} (hr0 : isX0 r0) (hr : ∀ v, P v → t = (some (.int v), ly0, I, L, R0)) (kk : P (F_X7_mostUnlike I r0 a1 a2)) : V (zM x_X7_mostUnlike 4 0 0 t) 0 [(0, .ref r0), (1, .int a1), (2, .long a2)] [] ly0 I L R0 0 0 :=
  V_iconst (tat ok_X7_mostUnlike_0 (i := 0) (q := 1) rfl rfl) ic_m1 <|
    V_istore (lv' := [(4, .int (-1)), (0, .ref r0), (1, .int a1), (2, .long a2)]) (tat ok_X7_mostUnlike_0 (i := 1) (q := 3) rfl rfl) (Nat.le_of_ble_eq_true rfl) rfl <|
    V_iconst (tat ok_X7_mostUnlike_0 (i := 2) (q := 4) rfl rfl) ic_0 <|
    V_istore (lv' := [(5, .int 0), (4, .int (-1)), (0, .ref r0), (1, .int a1), (2, .long a2)]) (tat ok_X7_mostUnlike_0 (i := 3) (q := 6) rfl rfl) (Nat.le_of_ble_eq_true rfl) rfl <|
    V_iconst (tat ok_X7_mostUnlike_0 (i := 4) (q := 7) rfl rfl) ic_0 <|
    V_istore (lv' := [(6, .int 0), (5, .int 0), (4, .int (-1)), (0, .ref r0), (1, .int a1), (2, .long a2)]) (tat ok_X7_mostUnlike_0 (i := 5) (q := 9) rfl rfl) (Nat.le_of_ble_eq_true rfl) rfl <|
    V_pick [3, 4, 5, 2, 1, 0] rfl (V_X7_mostUnlike_9 hr0 rfl rfl hr (jx (P := P) kk rfl))
theorem ct_X7_mostUnlike  (I : WI) (L : WL) (r0 : Nat) (a1 : Int32) (a2 : Int64) (hr0 : isX0 r0) : Ct x_X7_mostUnlike 4 [.ref r0, .int a1, .long a2] ly0 I L R0 0 0 (some (.int (F_X7_mostUnlike I r0 a1 a2)), ly0, I, L, R0) :=
  Ct_of_V mo_X7_mostUnlike.1 (Nat.le_of_ble_eq_true rfl) (V_X7_mostUnlike (P := fun x => x = (F_X7_mostUnlike I r0 a1 a2)) hr0 (fun _ e => by rw [e]) rfl)
def F_X7_goBlind_8_1 (I : WI) (r1 : Nat) (a2 : Int64) (a4 : Int64) : Option ((Int64 × WI) ⊕ (Int64 × WI)) :=
  (if (lg_cmp a4 0) = 0 then some (.inl (a4, I)) else (if 60 ≤ (I 27 5) then some (.inl (a4, I)) else some (.inr ((a4 ^^^ ((F_X0_squaresOf I r1 0 (F_X7_mostUnlike I r1 0 a4)) ^^^ (F_X0_squaresOf I r1 1 (F_X7_mostUnlike I r1 1 a4)))), (u2 I 27 5 ((I 27 5) + 1))))))
theorem V_X7_goBlind_8_1  {I : WI} {L : WL} {r1 : Nat} {a2 : Int64} {a4 : Int64} {P : ((Int64 × WI) ⊕ (Int64 × WI)) → Prop} {t : Tg} (hr1 : isX0 r1) (he : ∀ x : (Int64 × WI), P (.inl x) → V (zM x_X7_goBlind 5 0 0 t) 75 [(0, .ref 27), (1, .ref r1), (2, .long a2), (4, .long (p1 x))] [] ly0 (p2 x) L R0 0 0) (hk : ∀ x : (Int64 × WI), P (.inr x) → V (zM x_X7_goBlind 5 0 0 t) 8 [(0, .ref 27), (1, .ref r1), (2, .long a2), (4, .long (p1 x))] [] ly0 (p2 x) L R0 0 0) (kk : oP P (F_X7_goBlind_8_1 I r1 a2 a4)) : V (zM x_X7_goBlind 5 0 0 t) 8 [(0, .ref 27), (1, .ref r1), (2, .long a2), (4, .long a4)] [] ly0 I L R0 0 0 :=
  V_lload (tat ok_X7_goBlind_0 (i := 5) (q := 10) rfl rfl) 3 rfl <|
    V_lconst (v := 0) (tat ok_X7_goBlind_0 (i := 6) (q := 11) rfl rfl) rfl <|
    V_lcmp (tat ok_X7_goBlind_0 (i := 7) (q := 12) rfl rfl) <|
    V_if_eq (tat ok_X7_goBlind_0 (i := 8) (q := 15) rfl rfl) rfl (fun c1 => he (a4, I) (jx (P := oP P) kk (if_pos c1))) (fun c1 => V_aload_n (tat ok_X7_goBlind_0 (i := 9) (q := 16) rfl rfl) 0 rfl rfl <|
    V_getI (tat ok_X7_goBlind_0 (i := 10) (q := 19) rfl rfl) fk_X7_95 rfl <|
    V_bipush (tat ok_X7_goBlind_0 (i := 11) (q := 21) rfl rfl) bp_60 <|
    V_icmp_ge (tat ok_X7_goBlind_0 (i := 12) (q := 24) rfl rfl) rfl (fun c2 => he (a4, I) (jx (P := oP P) kk (Eq.trans (if_neg c1) (if_pos c2)))) (fun c2 => V_aload_n (tat ok_X7_goBlind_0 (i := 13) (q := 25) rfl rfl) 1 rfl rfl <|
    V_iconst (tat ok_X7_goBlind_0 (i := 14) (q := 26) rfl rfl) ic_0 <|
    V_aload_n (tat ok_X7_goBlind_0 (i := 15) (q := 27) rfl rfl) 1 rfl rfl <|
    V_iconst (tat ok_X7_goBlind_0 (i := 16) (q := 28) rfl rfl) ic_0 <|
    V_lload (tat ok_X7_goBlind_0 (i := 17) (q := 30) rfl rfl) 3 rfl <|
    V_cs3 (ct_X7_mostUnlike I L r1 0 a4 hr1) mo_X7_mostUnlike (tat ok_X7_goBlind_0 (i := 18) (q := 33) rfl rfl) ml_X7_98 ⟨(Nat.le_of_ble_eq_true rfl), (Nat.le_of_ble_eq_true rfl)⟩ ⟨(Nat.le_of_ble_eq_true rfl), (Nat.le_of_ble_eq_true rfl)⟩ (Nat.le_of_ble_eq_true rfl) <|
    V_cv2 (ct_X0_squaresOf I L r1 0 (F_X7_mostUnlike I r1 0 a4) hr1) mo_X0_squaresOf (tat ok_X7_goBlind_0 (i := 19) (q := 36) rfl rfl) ml_X7_79 hr1 ⟨by decide, _, rfl, rfl⟩ ⟨(Nat.le_of_ble_eq_true rfl), (Nat.le_of_ble_eq_true rfl)⟩ ⟨(Nat.le_of_ble_eq_true rfl), (Nat.le_of_ble_eq_true rfl)⟩ (Nat.le_of_ble_eq_true rfl) <|
    V_lstore (lv' := [(6, .long (F_X0_squaresOf I r1 0 (F_X7_mostUnlike I r1 0 a4))), (0, .ref 27), (1, .ref r1), (2, .long a2), (4, .long a4)]) (tat ok_X7_goBlind_0 (i := 20) (q := 38) rfl rfl) (Nat.le_of_ble_eq_true rfl) rfl <|
    V_aload_n (tat ok_X7_goBlind_0 (i := 21) (q := 39) rfl rfl) 2 rfl rfl <|
    V_iconst (tat ok_X7_goBlind_0 (i := 22) (q := 40) rfl rfl) ic_1 <|
    V_aload_n (tat ok_X7_goBlind_0 (i := 23) (q := 41) rfl rfl) 2 rfl rfl <|
    V_iconst (tat ok_X7_goBlind_0 (i := 24) (q := 42) rfl rfl) ic_1 <|
    V_lload (tat ok_X7_goBlind_0 (i := 25) (q := 44) rfl rfl) 4 rfl <|
    V_cs3 (ct_X7_mostUnlike I L r1 1 a4 hr1) mo_X7_mostUnlike (tat ok_X7_goBlind_0 (i := 26) (q := 47) rfl rfl) ml_X7_98 ⟨(Nat.le_of_ble_eq_true rfl), (Nat.le_of_ble_eq_true rfl)⟩ ⟨(Nat.le_of_ble_eq_true rfl), (Nat.le_of_ble_eq_true rfl)⟩ (Nat.le_of_ble_eq_true rfl) <|
    V_cv2 (ct_X0_squaresOf I L r1 1 (F_X7_mostUnlike I r1 1 a4) hr1) mo_X0_squaresOf (tat ok_X7_goBlind_0 (i := 27) (q := 50) rfl rfl) ml_X7_79 hr1 ⟨by decide, _, rfl, rfl⟩ ⟨(Nat.le_of_ble_eq_true rfl), (Nat.le_of_ble_eq_true rfl)⟩ ⟨(Nat.le_of_ble_eq_true rfl), (Nat.le_of_ble_eq_true rfl)⟩ (Nat.le_of_ble_eq_true rfl) <|
    V_lstore (lv' := [(8, .long (F_X0_squaresOf I r1 1 (F_X7_mostUnlike I r1 1 a4))), (6, .long (F_X0_squaresOf I r1 0 (F_X7_mostUnlike I r1 0 a4))), (0, .ref 27), (1, .ref r1), (2, .long a2), (4, .long a4)]) (tat ok_X7_goBlind_0 (i := 28) (q := 52) rfl rfl) (Nat.le_of_ble_eq_true rfl) rfl <|
    V_lload (tat ok_X7_goBlind_0 (i := 29) (q := 54) rfl rfl) 5 rfl <|
    V_lload (tat ok_X7_goBlind_0 (i := 30) (q := 56) rfl rfl) 1 rfl <|
    V_lload (tat ok_X7_goBlind_0 (i := 31) (q := 58) rfl rfl) 0 rfl <|
    V_lxor (tat ok_X7_goBlind_0 (i := 32) (q := 59) rfl rfl) <|
    V_lxor (tat ok_X7_goBlind_0 (i := 33) (q := 60) rfl rfl) <|
    V_lstore (lv' := [(4, .long (a4 ^^^ ((F_X0_squaresOf I r1 0 (F_X7_mostUnlike I r1 0 a4)) ^^^ (F_X0_squaresOf I r1 1 (F_X7_mostUnlike I r1 1 a4))))), (8, .long (F_X0_squaresOf I r1 1 (F_X7_mostUnlike I r1 1 a4))), (6, .long (F_X0_squaresOf I r1 0 (F_X7_mostUnlike I r1 0 a4))), (0, .ref 27), (1, .ref r1), (2, .long a2)]) (tat ok_X7_goBlind_0 (i := 34) (q := 62) rfl rfl) (Nat.le_of_ble_eq_true rfl) rfl <|
    V_aload_n (tat ok_X7_goBlind_0 (i := 35) (q := 63) rfl rfl) 3 rfl rfl <|
    V_dup (tat ok_X7_goBlind_0 (i := 36) (q := 64) rfl rfl) rfl <|
    V_getI (tat ok_X7_goBlind_0 (i := 37) (q := 67) rfl rfl) fk_X7_95 rfl <|
    V_iconst (tat ok_X7_goBlind_0 (i := 38) (q := 68) rfl rfl) ic_1 <|
    V_iadd (tat ok_X7_goBlind_0 (i := 39) (q := 69) rfl rfl) <|
    V_putI (tat ok_X7_goBlind_1 (i := 0) (q := 72) rfl rfl) fk_X7_95 rfl rfl <|
    V_goto (tat ok_X7_goBlind_1 (i := 1) (q := 75) rfl rfl) rfl <|
    V_pick [3, 4, 5, 0] rfl (hk ((a4 ^^^ ((F_X0_squaresOf I r1 0 (F_X7_mostUnlike I r1 0 a4)) ^^^ (F_X0_squaresOf I r1 1 (F_X7_mostUnlike I r1 1 a4)))), (u2 I 27 5 ((I 27 5) + 1))) (jx (P := oP P) kk (Eq.trans (if_neg c1) (if_neg c2))))))
def F_X7_goBlind_88 (I : WI) (r1 : Nat) (a2 : Int64) (a4 : Int64) (s0 : Int32) : Option WI :=
  some (u2 (u2 I 27 0 s0) 27 4 (F_J13_bitCount_95d88 a4))
theorem V_X7_goBlind_88  {I : WI} {L : WL} {r1 : Nat} {a2 : Int64} {a4 : Int64} {s0 : Int32} {P : WI → Prop} {t : Tg} (hr1 : isX0 r1) (hs0 : bz s0 = s0) (hr : ∀ v, P v → t = (none, ly0, v, L, R0)) (kk : oP P (F_X7_goBlind_88 I r1 a2 a4 s0)) : V (zM x_X7_goBlind 5 0 0 t) 88 [(0, .ref 27), (1, .ref r1), (2, .long a2), (4, .long a4)] [.int s0, .ref 27] ly0 I L R0 0 0 :=
  V_putZ (tat ok_X7_goBlind_1 (i := 10) (q := 91) rfl rfl) fk_X7_40 rfl rfl hs0 <|
    V_aload_n (tat ok_X7_goBlind_1 (i := 11) (q := 92) rfl rfl) 0 rfl rfl <|
    V_lload (tat ok_X7_goBlind_1 (i := 12) (q := 94) rfl rfl) 3 rfl <|
    V_cs1 (ct_J13_bitCount_95d88 (u2 I 27 0 s0) L a4 ) mo_J13_bitCount_95d88 (tat ok_X7_goBlind_1 (i := 13) (q := 97) rfl rfl) ml_X7_82 ⟨(Nat.le_of_ble_eq_true rfl), (Nat.le_of_ble_eq_true rfl)⟩ ⟨(Nat.le_of_ble_eq_true rfl), (Nat.le_of_ble_eq_true rfl)⟩ (Nat.le_of_ble_eq_true rfl) <|
    V_putI (tat ok_X7_goBlind_1 (i := 14) (q := 100) rfl rfl) fk_X7_92 rfl rfl <|
    V_vret (tat ok_X7_goBlind_1 (i := 15) (q := 101) rfl rfl) rfl (hr (u2 (u2 I 27 0 s0) 27 4 (F_J13_bitCount_95d88 a4)) (jx (P := oP P) kk rfl)) ⟨(Nat.le_of_ble_eq_true rfl), (Nat.le_of_ble_eq_true rfl)⟩
def F_X7_goBlind_75 (I : WI) (r1 : Nat) (a2 : Int64) (a4 : Int64) : Option WI :=
  (if (lg_cmp a4 0) = 0 then (F_X7_goBlind_88 I r1 a2 a4 1) else (F_X7_goBlind_88 I r1 a2 a4 0))
theorem V_X7_goBlind_75  {I : WI} {L : WL} {r1 : Nat} {a2 : Int64} {a4 : Int64} {P : WI → Prop} {t : Tg} (hr1 : isX0 r1) (hr : ∀ v, P v → t = (none, ly0, v, L, R0)) (kk : oP P (F_X7_goBlind_75 I r1 a2 a4)) : V (zM x_X7_goBlind 5 0 0 t) 75 [(0, .ref 27), (1, .ref r1), (2, .long a2), (4, .long a4)] [] ly0 I L R0 0 0 :=
  V_aload_n (tat ok_X7_goBlind_1 (i := 2) (q := 76) rfl rfl) 0 rfl rfl <|
    V_lload (tat ok_X7_goBlind_1 (i := 3) (q := 78) rfl rfl) 3 rfl <|
    V_lconst (v := 0) (tat ok_X7_goBlind_1 (i := 4) (q := 79) rfl rfl) rfl <|
    V_lcmp (tat ok_X7_goBlind_1 (i := 5) (q := 80) rfl rfl) <|
    V_if_ne (tat ok_X7_goBlind_1 (i := 6) (q := 83) rfl rfl) rfl (fun c3 => V_iconst (tat ok_X7_goBlind_1 (i := 9) (q := 88) rfl rfl) ic_0 <|
    V_X7_goBlind_88 hr1 rfl hr (jx (P := oP P) kk (if_neg c3))) (fun c3 => V_iconst (tat ok_X7_goBlind_1 (i := 7) (q := 84) rfl rfl) ic_1 <|
    V_goto (tat ok_X7_goBlind_1 (i := 8) (q := 87) rfl rfl) rfl <|
    V_X7_goBlind_88 hr1 rfl hr (jx (P := oP P) kk (if_pos c3)))
def F_X7_goBlind_8 (I : WI) (r1 : Nat) (a2 : Int64) (a4 : Int64) : Option WI :=
  (lpp (fun x => (F_X7_goBlind_8_1 (p2 x) r1 a2 (p1 x))) 4294967296 (a4, I)).bind (fun q => (F_X7_goBlind_75 (p2 q) r1 a2 (p1 q)))
theorem V_X7_goBlind_8  {I : WI} {L : WL} {r1 : Nat} {a2 : Int64} {a4 : Int64} {P : WI → Prop} {t : Tg} (hr1 : isX0 r1) (hr : ∀ v, P v → t = (none, ly0, v, L, R0)) (kk : oP P (F_X7_goBlind_8 I r1 a2 a4)) : V (zM x_X7_goBlind 5 0 0 t) 8 [(0, .ref 27), (1, .ref r1), (2, .long a2), (4, .long a4)] [] ly0 I L R0 0 0 :=
  V_lpp (fun x => (F_X7_goBlind_8_1 (p2 x) r1 a2 (p1 x))) (fun x => V (zM x_X7_goBlind 5 0 0 t) 8 [(0, .ref 27), (1, .ref r1), (2, .long a2), (4, .long (p1 x))] [] ly0 (p2 x) L R0 0 0) (fun x => oP P ((F_X7_goBlind_75 (p2 x) r1 a2 (p1 x)))) (s := (a4, I)) (fun x e0 => V_X7_goBlind_8_1 (P := Sum.elim (fun x => oP P ((F_X7_goBlind_75 (p2 x) r1 a2 (p1 x)))) (fun x => V (zM x_X7_goBlind 5 0 0 t) 8 [(0, .ref 27), (1, .ref r1), (2, .long a2), (4, .long (p1 x))] [] ly0 (p2 x) L R0 0 0)) hr1 (fun x e => V_X7_goBlind_75 hr1 hr e) (fun _ e => e) e0) (oP_bind (f := fun q => _) kk)
def F_X7_goBlind (I : WI) (r1 : Nat) (a2 : Int64) : Option WI :=
  (F_X7_goBlind_8 (u2 I 27 5 0) r1 a2 a2)
theorem V_X7_goBlind  {I : WI} {L : WL} {r1 : Nat} {a2 : Int64}  {P : WI → Prop} {t : Tg} (hr1 : isX0 r1) (hr : ∀ v, P v → t = (none, ly0, v, L, R0)) (kk : oP P (F_X7_goBlind I r1 a2)) : V (zM x_X7_goBlind 5 0 0 t) 0 [(0, .ref 27), (1, .ref r1), (2, .long a2)] [] ly0 I L R0 0 0 :=
  V_lload_n (tat ok_X7_goBlind_0 (i := 0) (q := 1) rfl rfl) 2 rfl rfl <|
    V_lstore (lv' := [(4, .long a2), (0, .ref 27), (1, .ref r1), (2, .long a2)]) (tat ok_X7_goBlind_0 (i := 1) (q := 3) rfl rfl) (Nat.le_of_ble_eq_true rfl) rfl <|
    V_aload_n (tat ok_X7_goBlind_0 (i := 2) (q := 4) rfl rfl) 1 rfl rfl <|
    V_iconst (tat ok_X7_goBlind_0 (i := 3) (q := 5) rfl rfl) ic_0 <|
    V_putI (tat ok_X7_goBlind_0 (i := 4) (q := 8) rfl rfl) fk_X7_95 rfl rfl <|
    V_pick [1, 2, 3, 0] rfl (V_X7_goBlind_8 hr1 hr (jx (P := oP P) kk rfl))
theorem ct_X7_goBlind  (I : WI) (L : WL) (r1 : Nat) (a2 : Int64) (hr1 : isX0 r1) {v : WI} (h : (F_X7_goBlind I r1 a2) = some v) : Ct x_X7_goBlind 5 [.ref 27, .ref r1, .long a2] ly0 I L R0 0 0 (none, ly0, v, L, R0) :=
  Ct_of_V mo_X7_goBlind.1 (Nat.le_of_ble_eq_true rfl) (V_X7_goBlind (P := fun x => x = v) hr1 (fun _ e => by rw [e]) (by rw [h]; exact rfl))
def F_X7_slantsThatMake_62_1 (L : WL) (a1 : Int64) (a4 : Int32) (a3 : Int32) : Option (Int32 ⊕ Int32) :=
  some (.inr a3)
theorem V_X7_slantsThatMake_62_1  {I : WI} {L : WL} {a1 : Int64} {a4 : Int32} {a3 : Int32} {P : (Int32 ⊕ Int32) → Prop} {t : Tg} (hr : ∀ v, P (.inl v) → t = (some (.int v), ly0, I, L, R0)) (hk : ∀ x : Int32, P (.inr x) → V (zM x_X7_slantsThatMake 1 0 0 t) 5 [(0, .ref 27), (1, .long a1), (3, .int x), (4, .int (a4 + 1))] [] ly0 I L R0 0 0) (kk : oP P (F_X7_slantsThatMake_62_1 L a1 a4 a3)) : V (zM x_X7_slantsThatMake 1 0 0 t) 62 [(0, .ref 27), (1, .long a1), (3, .int a3), (4, .int a4)] [] ly0 I L R0 0 0 :=
  V_iinc (v := (a4 + 1)) (lv' := [(4, .int (a4 + 1)), (0, .ref 27), (1, .long a1), (3, .int a3)]) (tat ok_X7_slantsThatMake_0 (i := 39) (q := 65) rfl rfl) 3 rfl (ia ic_1) (Nat.le_of_ble_eq_true rfl) rfl <|
    V_goto (tat ok_X7_slantsThatMake_1 (i := 0) (q := 68) rfl rfl) rfl <|
    V_pick [1, 2, 3, 0] rfl (hk a3 (jx (P := oP P) kk rfl))
def F_X7_slantsThatMake_48_1 (L : WL) (a1 : Int64) (a4 : Int32) (a3 : Int32) (a5 : Int64) : Option (Int32 ⊕ Int32) :=
  (if (lg_cmp a5 0) = 0 then (F_X7_slantsThatMake_62_1 L a1 a4 a3) else (F_X7_slantsThatMake_62_1 L a1 a4 (a3 ||| (1 <<< (a4 &&& 31)))))
theorem V_X7_slantsThatMake_48_1  {I : WI} {L : WL} {a1 : Int64} {a4 : Int32} {a3 : Int32} {a5 : Int64} {P : (Int32 ⊕ Int32) → Prop} {t : Tg} (hr : ∀ v, P (.inl v) → t = (some (.int v), ly0, I, L, R0)) (hk : ∀ x : Int32, P (.inr x) → V (zM x_X7_slantsThatMake 1 0 0 t) 5 [(0, .ref 27), (1, .long a1), (3, .int x), (4, .int (a4 + 1))] [] ly0 I L R0 0 0) (kk : oP P (F_X7_slantsThatMake_48_1 L a1 a4 a3 a5)) : V (zM x_X7_slantsThatMake 1 0 0 t) 48 [(0, .ref 27), (1, .long a1), (3, .int a3), (4, .int a4), (5, .long a5)] [] ly0 I L R0 0 0 :=
  V_lload (tat ok_X7_slantsThatMake_0 (i := 29) (q := 50) rfl rfl) 4 rfl <|
    V_lconst (v := 0) (tat ok_X7_slantsThatMake_0 (i := 30) (q := 51) rfl rfl) rfl <|
    V_lcmp (tat ok_X7_slantsThatMake_0 (i := 31) (q := 52) rfl rfl) <|
    V_if_eq (tat ok_X7_slantsThatMake_0 (i := 32) (q := 55) rfl rfl) rfl (fun c3 => V_pick [0, 1, 2, 3] rfl (V_X7_slantsThatMake_62_1  hr hk (jx (P := oP P) kk (if_pos c3)))) (fun c3 => V_iload_n (tat ok_X7_slantsThatMake_0 (i := 33) (q := 56) rfl rfl) 2 rfl rfl <|
    V_iconst (tat ok_X7_slantsThatMake_0 (i := 34) (q := 57) rfl rfl) ic_1 <|
    V_iload (tat ok_X7_slantsThatMake_0 (i := 35) (q := 59) rfl rfl) 3 rfl <|
    V_ishl (tat ok_X7_slantsThatMake_0 (i := 36) (q := 60) rfl rfl) <|
    V_ior (tat ok_X7_slantsThatMake_0 (i := 37) (q := 61) rfl rfl) <|
    V_istore_n (lv' := [(3, .int (a3 ||| (1 <<< (a4 &&& 31)))), (0, .ref 27), (1, .long a1), (4, .int a4), (5, .long a5)]) (tat ok_X7_slantsThatMake_0 (i := 38) (q := 62) rfl rfl) rfl (Nat.le_of_ble_eq_true rfl) rfl <|
    V_pick [1, 2, 0, 3] rfl (V_X7_slantsThatMake_62_1  hr hk (jx (P := oP P) kk (if_neg c3))))
def F_X7_slantsThatMake_15_1 (L : WL) (a1 : Int64) (a4 : Int32) (a3 : Int32) : Option (Int32 ⊕ Int32) :=
  (if a4 < 0 ∨ 15 ≤ Int32.toNatClampNeg a4 then none else (if (lg_cmp (a1 &&& (L 28 (Int32.toNatClampNeg a4))) 0) = 0 then (F_X7_slantsThatMake_48_1 L a1 a4 a3 (a1 &&& (L 28 (Int32.toNatClampNeg a4)))) else (if a4 < 0 ∨ 15 ≤ Int32.toNatClampNeg a4 then none else (if (lg_cmp (a1 &&& (L 28 (Int32.toNatClampNeg a4))) (L 28 (Int32.toNatClampNeg a4))) = 0 then (F_X7_slantsThatMake_48_1 L a1 a4 a3 (a1 &&& (L 28 (Int32.toNatClampNeg a4)))) else some (.inl (-1))))))
theorem V_X7_slantsThatMake_15_1  {I : WI} {L : WL} {a1 : Int64} {a4 : Int32} {a3 : Int32} {P : (Int32 ⊕ Int32) → Prop} {t : Tg} (hr : ∀ v, P (.inl v) → t = (some (.int v), ly0, I, L, R0)) (hk : ∀ x : Int32, P (.inr x) → V (zM x_X7_slantsThatMake 1 0 0 t) 5 [(0, .ref 27), (1, .long a1), (3, .int x), (4, .int (a4 + 1))] [] ly0 I L R0 0 0) (kk : oP P (F_X7_slantsThatMake_15_1 L a1 a4 a3)) : V (zM x_X7_slantsThatMake 1 0 0 t) 15 [(0, .ref 27), (1, .long a1), (3, .int a3), (4, .int a4)] [] ly0 I L R0 0 0 :=
  V_lload_n (tat ok_X7_slantsThatMake_0 (i := 9) (q := 16) rfl rfl) 1 rfl rfl <|
    V_aload_n (tat ok_X7_slantsThatMake_0 (i := 10) (q := 17) rfl rfl) 0 rfl rfl <|
    V_getR (tat ok_X7_slantsThatMake_0 (i := 11) (q := 20) rfl rfl) fk_X7_9 rfl rfl <|
    V_iload (tat ok_X7_slantsThatMake_0 (i := 12) (q := 22) rfl rfl) 3 rfl <|
    (if c1 : a4 < 0 ∨ 15 ≤ Int32.toNatClampNeg a4 then ((jx (P := oP P) kk (if_pos c1))).elim else V_lald (tat ok_X7_slantsThatMake_0 (i := 13) (q := 23) rfl rfl) rfl c1 <|
    V_land (tat ok_X7_slantsThatMake_0 (i := 14) (q := 24) rfl rfl) <|
    V_lstore (lv' := [(5, .long (a1 &&& (L 28 (Int32.toNatClampNeg a4)))), (0, .ref 27), (1, .long a1), (3, .int a3), (4, .int a4)]) (tat ok_X7_slantsThatMake_0 (i := 15) (q := 26) rfl rfl) (Nat.le_of_ble_eq_true rfl) rfl <|
    V_lload (tat ok_X7_slantsThatMake_0 (i := 16) (q := 28) rfl rfl) 0 rfl <|
    V_lconst (v := 0) (tat ok_X7_slantsThatMake_0 (i := 17) (q := 29) rfl rfl) rfl <|
    V_lcmp (tat ok_X7_slantsThatMake_0 (i := 18) (q := 30) rfl rfl) <|
    V_if_eq (tat ok_X7_slantsThatMake_0 (i := 19) (q := 33) rfl rfl) rfl (fun c2 => V_pick [1, 2, 3, 4, 0] rfl (V_X7_slantsThatMake_48_1  hr hk (jx (P := oP P) kk (Eq.trans (if_neg c1) (if_pos c2))))) (fun c2 => V_lload (tat ok_X7_slantsThatMake_0 (i := 20) (q := 35) rfl rfl) 0 rfl <|
    V_aload_n (tat ok_X7_slantsThatMake_0 (i := 21) (q := 36) rfl rfl) 1 rfl rfl <|
    V_getR (tat ok_X7_slantsThatMake_0 (i := 22) (q := 39) rfl rfl) fk_X7_9 rfl rfl <|
    V_iload (tat ok_X7_slantsThatMake_0 (i := 23) (q := 41) rfl rfl) 4 rfl <|
    (if c4 : a4 < 0 ∨ 15 ≤ Int32.toNatClampNeg a4 then ((jx (P := oP P) kk (Eq.trans (if_neg c1) (Eq.trans (if_neg c2) (if_pos c4))))).elim else V_lald (tat ok_X7_slantsThatMake_0 (i := 24) (q := 42) rfl rfl) rfl c4 <|
    V_lcmp (tat ok_X7_slantsThatMake_0 (i := 25) (q := 43) rfl rfl) <|
    V_if_eq (tat ok_X7_slantsThatMake_0 (i := 26) (q := 46) rfl rfl) rfl (fun c5 => V_pick [1, 2, 3, 4, 0] rfl (V_X7_slantsThatMake_48_1  hr hk (jx (P := oP P) kk (Eq.trans (if_neg c1) (Eq.trans (if_neg c2) (Eq.trans (if_neg c4) (if_pos c5))))))) (fun c5 => V_iconst (tat ok_X7_slantsThatMake_0 (i := 27) (q := 47) rfl rfl) ic_m1 <|
    V_iret (tat ok_X7_slantsThatMake_0 (i := 28) (q := 48) rfl rfl) _ rfl (nar_int _) (hr (-1) (jx (P := oP P) kk (Eq.trans (if_neg c1) (Eq.trans (if_neg c2) (Eq.trans (if_neg c4) (if_neg c5)))))) ⟨(Nat.le_of_ble_eq_true rfl), (Nat.le_of_ble_eq_true rfl)⟩))))
def F_X7_slantsThatMake_68 (L : WL) (a1 : Int64) (a3 : Int32) : Option Int32 :=
  some a3
theorem V_X7_slantsThatMake_68  {I : WI} {L : WL} {a1 : Int64} {a3 : Int32} {P : Int32 → Prop} {t : Tg} (hr : ∀ v, P v → t = (some (.int v), ly0, I, L, R0)) (kk : oP P (F_X7_slantsThatMake_68 L a1 a3)) : V (zM x_X7_slantsThatMake 1 0 0 t) 68 [(0, .ref 27), (1, .long a1), (3, .int a3)] [] ly0 I L R0 0 0 :=
  V_iload_n (tat ok_X7_slantsThatMake_1 (i := 1) (q := 69) rfl rfl) 2 rfl rfl <|
    V_iret (tat ok_X7_slantsThatMake_1 (i := 2) (q := 70) rfl rfl) _ rfl (nar_int _) (hr a3 (jx (P := oP P) kk rfl)) ⟨(Nat.le_of_ble_eq_true rfl), (Nat.le_of_ble_eq_true rfl)⟩
def F_X7_slantsThatMake_5 (L : WL) (a1 : Int64) (a3 : Int32) (a4 : Int32) : Option Int32 :=
  (frp1 (fun i x => (F_X7_slantsThatMake_15_1 L a1 i x)) 15 (fu a4 15) a4 a3).bind (Sum.elim (fun r => some (r)) (fun q => (F_X7_slantsThatMake_68 L a1 (p2 q))))
theorem V_X7_slantsThatMake_5  {I : WI} {L : WL} {a1 : Int64} {a3 : Int32} {a4 : Int32} {P : Int32 → Prop} {t : Tg} (hb3 : bz a3 = a3) (hb4 : bz a4 = a4) (hr : ∀ v, P v → t = (some (.int v), ly0, I, L, R0)) (kk : oP P (F_X7_slantsThatMake_5 L a1 a3 a4)) : V (zM x_X7_slantsThatMake 1 0 0 t) 5 [(0, .ref 27), (1, .long a1), (3, .int a3), (4, .int a4)] [] ly0 I L R0 0 0 :=
  V_frp1 (fun i x => (F_X7_slantsThatMake_15_1 L a1 i x)) 15 (fun i x => V (zM x_X7_slantsThatMake 1 0 0 t) 5 [(0, .ref 27), (1, .long a1), (3, .int x), (4, .int i)] [] ly0 I L R0 0 0) (fun i x => oP P ((F_X7_slantsThatMake_68 L a1 x))) (fun r => P (r)) (c := a4) (s := a3) (fun i x kx kb => V_iload (tat ok_X7_slantsThatMake_0 (i := 4) (q := 7) rfl rfl) 3 rfl <|
    V_aload_n (tat ok_X7_slantsThatMake_0 (i := 5) (q := 8) rfl rfl) 0 rfl rfl <|
    V_getR (tat ok_X7_slantsThatMake_0 (i := 6) (q := 11) rfl rfl) fk_X7_9 rfl rfl <|
    V_alen (tat ok_X7_slantsThatMake_0 (i := 7) (q := 12) rfl rfl) rfl ⟨by decide, by decide⟩ nl_15 <|
    V_icmp_ge (tat ok_X7_slantsThatMake_0 (i := 8) (q := 15) rfl rfl) rfl (fun c0 => V_pick [0, 1, 2] rfl (V_X7_slantsThatMake_68  hr (kx c0))) (fun c0 => V_X7_slantsThatMake_15_1 (P := (Sum.elim (fun r => P (r)) (fun x => (fun i x => V (zM x_X7_slantsThatMake 1 0 0 t) 5 [(0, .ref 27), (1, .long a1), (3, .int x), (4, .int i)] [] ly0 I L R0 0 0) (i + 1) x)))  (fun v e => hr v e) (fun _ e => e) (kb c0))) (oP_sum kk)
def F_X7_slantsThatMake (L : WL) (a1 : Int64) : Option Int32 :=
  (F_X7_slantsThatMake_5 L a1 0 0)
theorem V_X7_slantsThatMake  {I : WI} {L : WL} {a1 : Int64}  {P : Int32 → Prop} {t : Tg} (hr : ∀ v, P v → t = (some (.int v), ly0, I, L, R0)) (kk : oP P (F_X7_slantsThatMake L a1)) : V (zM x_X7_slantsThatMake 1 0 0 t) 0 [(0, .ref 27), (1, .long a1)] [] ly0 I L R0 0 0 :=
  V_iconst (tat ok_X7_slantsThatMake_0 (i := 0) (q := 1) rfl rfl) ic_0 <|
    V_istore_n (lv' := [(3, .int 0), (0, .ref 27), (1, .long a1)]) (tat ok_X7_slantsThatMake_0 (i := 1) (q := 2) rfl rfl) rfl (Nat.le_of_ble_eq_true rfl) rfl <|
    V_iconst (tat ok_X7_slantsThatMake_0 (i := 2) (q := 3) rfl rfl) ic_0 <|
    V_istore (lv' := [(4, .int 0), (3, .int 0), (0, .ref 27), (1, .long a1)]) (tat ok_X7_slantsThatMake_0 (i := 3) (q := 5) rfl rfl) (Nat.le_of_ble_eq_true rfl) rfl <|
    V_pick [2, 3, 1, 0] rfl (V_X7_slantsThatMake_5 rfl rfl hr (jx (P := oP P) kk rfl))
theorem ct_X7_slantsThatMake  (I : WI) (L : WL) (a1 : Int64)  {v : Int32} (h : (F_X7_slantsThatMake L a1) = some v) : Ct x_X7_slantsThatMake 1 [.ref 27, .long a1] ly0 I L R0 0 0 (some (.int v), ly0, I, L, R0) :=
  Ct_of_V mo_X7_slantsThatMake.1 (Nat.le_of_ble_eq_true rfl) (V_X7_slantsThatMake (P := fun x => x = v)  (fun _ e => by rw [e]) (by rw [h]; exact rfl))
def F_X7_trySlants_59 (I : WI) (L : WL) (a1 : Int32) (a2 : Int32) (a3 : Int64) : Option WI :=
  some I
theorem V_X7_trySlants_59  {I : WI} {L : WL} {a1 : Int32} {a2 : Int32} {a3 : Int64}  {P : WI → Prop} {t : Tg} (hr : ∀ v, P v → t = (none, ly0, v, L, R0)) (kk : oP P (F_X7_trySlants_59 I L a1 a2 a3)) : V (zM x_X7_trySlants 3 0 0 t) 59 [(0, .ref 27), (1, .int a1), (2, .int a2), (3, .long a3)] [] ly0 I L R0 0 0 :=
  V_vret (tat ok_X7_trySlants_0 (i := 31) (q := 60) rfl rfl) rfl (hr I (jx (P := oP P) kk rfl)) ⟨(Nat.le_of_ble_eq_true rfl), (Nat.le_of_ble_eq_true rfl)⟩
def F_X7_trySlants_46 (I : WI) (L : WL) (a1 : Int32) (a2 : Int32) (a3 : Int64) (a5 : Int32) : Option WI :=
  (F_X7_trySlants_59 (F_X7_take (u2 I 27 0 1) a1 a2 a5) L a1 a2 a3)
theorem V_X7_trySlants_46  {I : WI} {L : WL} {a1 : Int32} {a2 : Int32} {a3 : Int64} {a5 : Int32} {P : WI → Prop} {t : Tg} (hr : ∀ v, P v → t = (none, ly0, v, L, R0)) (kk : oP P (F_X7_trySlants_46 I L a1 a2 a3 a5)) : V (zM x_X7_trySlants 3 0 0 t) 46 [(0, .ref 27), (1, .int a1), (2, .int a2), (3, .long a3), (5, .int a5)] [] ly0 I L R0 0 0 :=
  V_aload_n (tat ok_X7_trySlants_0 (i := 23) (q := 47) rfl rfl) 0 rfl rfl <|
    V_iconst (tat ok_X7_trySlants_0 (i := 24) (q := 48) rfl rfl) ic_1 <|
    V_putZ (tat ok_X7_trySlants_0 (i := 25) (q := 51) rfl rfl) fk_X7_40 rfl rfl rfl <|
    V_aload_n (tat ok_X7_trySlants_0 (i := 26) (q := 52) rfl rfl) 0 rfl rfl <|
    V_iload_n (tat ok_X7_trySlants_0 (i := 27) (q := 53) rfl rfl) 1 rfl rfl <|
    V_iload_n (tat ok_X7_trySlants_0 (i := 28) (q := 54) rfl rfl) 2 rfl rfl <|
    V_iload (tat ok_X7_trySlants_0 (i := 29) (q := 56) rfl rfl) 4 rfl <|
    V_cv3v (ct_X7_take (u2 I 27 0 1) L a1 a2 a5 ) mo_X7_take (tat ok_X7_trySlants_0 (i := 30) (q := 59) rfl rfl) ml_X7_51 rfl ⟨by decide, _, rfl, rfl⟩ ⟨(Nat.le_of_ble_eq_true rfl), (Nat.le_of_ble_eq_true rfl)⟩ ⟨(Nat.le_of_ble_eq_true rfl), (Nat.le_of_ble_eq_true rfl)⟩ (Nat.le_of_ble_eq_true rfl) <|
    V_pick [0, 1, 2, 3] rfl (V_X7_trySlants_59  hr (jx (P := oP P) kk rfl))
def F_X7_trySlants (I : WI) (L : WL) (a1 : Int32) (a2 : Int32) (a3 : Int64) : Option WI :=
  (Option.bind (F_X7_slantsThatMake L a3) (fun v1 => (if 0 ≤ v1 then (if (bz (I 27 0)) = 0 then (F_X7_trySlants_46 I L a1 a2 a3 v1) else (if (F_X7_acts I) ≤ (((F_J6_bitCount_0f7a4 a1) + (F_J6_bitCount_0f7a4 a2)) + (F_J6_bitCount_0f7a4 v1)) then (F_X7_trySlants_59 I L a1 a2 a3) else (F_X7_trySlants_46 I L a1 a2 a3 v1))) else some I)))
theorem V_X7_trySlants  {I : WI} {L : WL} {a1 : Int32} {a2 : Int32} {a3 : Int64}  {P : WI → Prop} {t : Tg} (hr : ∀ v, P v → t = (none, ly0, v, L, R0)) (kk : oP P (F_X7_trySlants I L a1 a2 a3)) : V (zM x_X7_trySlants 3 0 0 t) 0 [(0, .ref 27), (1, .int a1), (2, .int a2), (3, .long a3)] [] ly0 I L R0 0 0 :=
  V_aload_n (tat ok_X7_trySlants_0 (i := 0) (q := 1) rfl rfl) 0 rfl rfl <|
    V_lload_n (tat ok_X7_trySlants_0 (i := 1) (q := 2) rfl rfl) 3 rfl rfl <|
    oP_case (jx (P := oP P) kk rfl) (fun v1 e1 _ => V_cv1 (ct_X7_slantsThatMake I L a3  e1) mo_X7_slantsThatMake (tat ok_X7_trySlants_0 (i := 2) (q := 5) rfl rfl) ml_X7_109 rfl ⟨by decide, _, rfl, rfl⟩ ⟨(Nat.le_of_ble_eq_true rfl), (Nat.le_of_ble_eq_true rfl)⟩ ⟨(Nat.le_of_ble_eq_true rfl), (Nat.le_of_ble_eq_true rfl)⟩ (Nat.le_of_ble_eq_true rfl) <|
    V_istore (lv' := [(5, .int v1), (0, .ref 27), (1, .int a1), (2, .int a2), (3, .long a3)]) (tat ok_X7_trySlants_0 (i := 3) (q := 7) rfl rfl) (Nat.le_of_ble_eq_true rfl) rfl <|
    V_iload (tat ok_X7_trySlants_0 (i := 4) (q := 9) rfl rfl) 0 rfl <|
    V_if_ge (tat ok_X7_trySlants_0 (i := 5) (q := 12) rfl rfl) rfl (fun c2 => V_iload_n (tat ok_X7_trySlants_0 (i := 7) (q := 14) rfl rfl) 2 rfl rfl <|
    V_cs1 (ct_J6_bitCount_0f7a4 I L a1 ) mo_J6_bitCount_0f7a4 (tat ok_X7_trySlants_0 (i := 8) (q := 17) rfl rfl) ml_X7_22 ⟨(Nat.le_of_ble_eq_true rfl), (Nat.le_of_ble_eq_true rfl)⟩ ⟨(Nat.le_of_ble_eq_true rfl), (Nat.le_of_ble_eq_true rfl)⟩ (Nat.le_of_ble_eq_true rfl) <|
    V_iload_n (tat ok_X7_trySlants_0 (i := 9) (q := 18) rfl rfl) 3 rfl rfl <|
    V_cs1 (ct_J6_bitCount_0f7a4 I L a2 ) mo_J6_bitCount_0f7a4 (tat ok_X7_trySlants_0 (i := 10) (q := 21) rfl rfl) ml_X7_22 ⟨(Nat.le_of_ble_eq_true rfl), (Nat.le_of_ble_eq_true rfl)⟩ ⟨(Nat.le_of_ble_eq_true rfl), (Nat.le_of_ble_eq_true rfl)⟩ (Nat.le_of_ble_eq_true rfl) <|
    V_iadd (tat ok_X7_trySlants_0 (i := 11) (q := 22) rfl rfl) <|
    V_iload (tat ok_X7_trySlants_0 (i := 12) (q := 24) rfl rfl) 0 rfl <|
    V_cs1 (ct_J6_bitCount_0f7a4 I L v1 ) mo_J6_bitCount_0f7a4 (tat ok_X7_trySlants_0 (i := 13) (q := 27) rfl rfl) ml_X7_22 ⟨(Nat.le_of_ble_eq_true rfl), (Nat.le_of_ble_eq_true rfl)⟩ ⟨(Nat.le_of_ble_eq_true rfl), (Nat.le_of_ble_eq_true rfl)⟩ (Nat.le_of_ble_eq_true rfl) <|
    V_iadd (tat ok_X7_trySlants_0 (i := 14) (q := 28) rfl rfl) <|
    V_istore (lv' := [(6, .int (((F_J6_bitCount_0f7a4 a1) + (F_J6_bitCount_0f7a4 a2)) + (F_J6_bitCount_0f7a4 v1))), (5, .int v1), (0, .ref 27), (1, .int a1), (2, .int a2), (3, .long a3)]) (tat ok_X7_trySlants_0 (i := 15) (q := 30) rfl rfl) (Nat.le_of_ble_eq_true rfl) rfl <|
    V_aload_n (tat ok_X7_trySlants_0 (i := 16) (q := 31) rfl rfl) 2 rfl rfl <|
    V_getZ (tat ok_X7_trySlants_0 (i := 17) (q := 34) rfl rfl) fk_X7_40 rfl <|
    V_if_eq (tat ok_X7_trySlants_0 (i := 18) (q := 37) rfl rfl) rfl (fun c3 => V_pick [2, 3, 4, 5, 1] rfl (V_X7_trySlants_46  hr (jx (P := oP P) kk (Eq.trans (ob e1) (Eq.trans (if_pos c2) (if_pos c3)))))) (fun c3 => V_iload (tat ok_X7_trySlants_0 (i := 19) (q := 39) rfl rfl) 0 rfl <|
    V_aload_n (tat ok_X7_trySlants_0 (i := 20) (q := 40) rfl rfl) 2 rfl rfl <|
    V_cv0 (ct_X7_acts I L  ) mo_X7_acts (tat ok_X7_trySlants_0 (i := 21) (q := 43) rfl rfl) ml_X7_59 rfl ⟨by decide, _, rfl, rfl⟩ ⟨(Nat.le_of_ble_eq_true rfl), (Nat.le_of_ble_eq_true rfl)⟩ ⟨(Nat.le_of_ble_eq_true rfl), (Nat.le_of_ble_eq_true rfl)⟩ (Nat.le_of_ble_eq_true rfl) <|
    V_icmp_ge (tat ok_X7_trySlants_0 (i := 22) (q := 46) rfl rfl) rfl (fun c4 => V_pick [2, 3, 4, 5] rfl (V_X7_trySlants_59  hr (jx (P := oP P) kk (Eq.trans (ob e1) (Eq.trans (if_pos c2) (Eq.trans (if_neg c3) (if_pos c4))))))) (fun c4 => V_pick [2, 3, 4, 5, 1] rfl (V_X7_trySlants_46  hr (jx (P := oP P) kk (Eq.trans (ob e1) (Eq.trans (if_pos c2) (Eq.trans (if_neg c3) (if_neg c4))))))))) (fun c2 => V_vret (tat ok_X7_trySlants_0 (i := 6) (q := 13) rfl rfl) rfl (hr I (jx (P := oP P) kk (Eq.trans (ob e1) (if_neg c2)))) ⟨(Nat.le_of_ble_eq_true rfl), (Nat.le_of_ble_eq_true rfl)⟩))
theorem ct_X7_trySlants  (I : WI) (L : WL) (a1 : Int32) (a2 : Int32) (a3 : Int64)  {v : WI} (h : (F_X7_trySlants I L a1 a2 a3) = some v) : Ct x_X7_trySlants 3 [.ref 27, .int a1, .int a2, .long a3] ly0 I L R0 0 0 (none, ly0, v, L, R0) :=
  Ct_of_V mo_X7_trySlants.1 (Nat.le_of_ble_eq_true rfl) (V_X7_trySlants (P := fun x => x = v)  (fun _ e => by rw [e]) (by rw [h]; exact rfl))
def F_X7_findSlanted_13_1 (I : WI) (L : WL) (r1 : Nat) (a2 : Int64) (a4 : Int32) : Option WL :=
  (if a4 < 0 ∨ 15 ≤ Int32.toNatClampNeg a4 then none else some (u2 L 28 (Int32.toNatClampNeg a4) (F_X0_squaresOf I r1 2 a4)))
theorem V_X7_findSlanted_13_1  {I : WI} {L : WL} {r1 : Nat} {a2 : Int64} {a4 : Int32}  {P : WL → Prop} {t : Tg} (hr1 : isX0 r1) (hk : ∀ x : WL, P x → V (zM x_X7_findSlanted 5 0 0 t) 3 [(0, .ref 27), (1, .ref r1), (2, .long a2), (4, .int (a4 + 1))] [] ly0 I x R0 0 0) (kk : oP P (F_X7_findSlanted_13_1 I L r1 a2 a4)) : V (zM x_X7_findSlanted 5 0 0 t) 13 [(0, .ref 27), (1, .ref r1), (2, .long a2), (4, .int a4)] [] ly0 I L R0 0 0 :=
  V_aload_n (tat ok_X7_findSlanted_0 (i := 7) (q := 14) rfl rfl) 0 rfl rfl <|
    V_getR (tat ok_X7_findSlanted_0 (i := 8) (q := 17) rfl rfl) fk_X7_9 rfl rfl <|
    V_iload (tat ok_X7_findSlanted_0 (i := 9) (q := 19) rfl rfl) 3 rfl <|
    V_aload_n (tat ok_X7_findSlanted_0 (i := 10) (q := 20) rfl rfl) 1 rfl rfl <|
    V_iconst (tat ok_X7_findSlanted_0 (i := 11) (q := 21) rfl rfl) ic_2 <|
    V_iload (tat ok_X7_findSlanted_0 (i := 12) (q := 23) rfl rfl) 3 rfl <|
    V_cv2 (ct_X0_squaresOf I L r1 2 a4 hr1) mo_X0_squaresOf (tat ok_X7_findSlanted_0 (i := 13) (q := 26) rfl rfl) ml_X7_79 hr1 ⟨by decide, _, rfl, rfl⟩ ⟨(Nat.le_of_ble_eq_true rfl), (Nat.le_of_ble_eq_true rfl)⟩ ⟨(Nat.le_of_ble_eq_true rfl), (Nat.le_of_ble_eq_true rfl)⟩ (Nat.le_of_ble_eq_true rfl) <|
    (if c1 : a4 < 0 ∨ 15 ≤ Int32.toNatClampNeg a4 then ((jx (P := oP P) kk (if_pos c1))).elim else V_last (tat ok_X7_findSlanted_0 (i := 14) (q := 27) rfl rfl) rfl c1 <|
    V_iinc (v := (a4 + 1)) (lv' := [(4, .int (a4 + 1)), (0, .ref 27), (1, .ref r1), (2, .long a2)]) (tat ok_X7_findSlanted_0 (i := 15) (q := 30) rfl rfl) 3 rfl (ia ic_1) (Nat.le_of_ble_eq_true rfl) rfl <|
    V_goto (tat ok_X7_findSlanted_0 (i := 16) (q := 33) rfl rfl) rfl <|
    V_pick [1, 2, 3, 0] rfl (hk (u2 L 28 (Int32.toNatClampNeg a4) (F_X0_squaresOf I r1 2 a4)) (jx (P := oP P) kk (if_neg c1))))
def F_X7_findSlanted_53_3 (I : WI) (L : WL) (r1 : Nat) (a2 : Int64) (a4 : Int32) (a5 : Int32) : Option (WI ⊕ (Int32 × WI)) :=
  (if (F_X0_everyColumn I r1) < a5 then some (.inl I) else (Option.bind (F_X7_trySlants I L a4 a5 (a2 ^^^ (F_X0_squaresTurned I r1 a4 a5))) (fun v4 => some (.inr ((a5 + 1), v4)))))
theorem V_X7_findSlanted_53_3  {I : WI} {L : WL} {r1 : Nat} {a2 : Int64} {a4 : Int32} {a5 : Int32} {P : (WI ⊕ (Int32 × WI)) → Prop} {t : Tg} (hr1 : isX0 r1) (he : ∀ x : WI, P (.inl x) → V (zM x_X7_findSlanted 5 0 0 t) 86 [(0, .ref 27), (1, .ref r1), (2, .long a2), (4, .int a4)] [] ly0 x L R0 0 0) (hk : ∀ x : (Int32 × WI), P (.inr x) → V (zM x_X7_findSlanted 5 0 0 t) 53 [(0, .ref 27), (1, .ref r1), (2, .long a2), (4, .int a4), (5, .int (p1 x))] [] ly0 (p2 x) L R0 0 0) (kk : oP P (F_X7_findSlanted_53_3 I L r1 a2 a4 a5)) : V (zM x_X7_findSlanted 5 0 0 t) 53 [(0, .ref 27), (1, .ref r1), (2, .long a2), (4, .int a4), (5, .int a5)] [] ly0 I L R0 0 0 :=
  V_iload (tat ok_X7_findSlanted_0 (i := 28) (q := 55) rfl rfl) 4 rfl <|
    V_aload_n (tat ok_X7_findSlanted_0 (i := 29) (q := 56) rfl rfl) 1 rfl rfl <|
    V_cv0 (ct_X0_everyColumn I L r1 hr1) mo_X0_everyColumn (tat ok_X7_findSlanted_0 (i := 30) (q := 59) rfl rfl) ml_X7_68 hr1 ⟨by decide, _, rfl, rfl⟩ ⟨(Nat.le_of_ble_eq_true rfl), (Nat.le_of_ble_eq_true rfl)⟩ ⟨(Nat.le_of_ble_eq_true rfl), (Nat.le_of_ble_eq_true rfl)⟩ (Nat.le_of_ble_eq_true rfl) <|
    V_icmp_gt (tat ok_X7_findSlanted_0 (i := 31) (q := 62) rfl rfl) rfl (fun c3 => V_pick [0, 1, 2, 3] rfl (he I (jx (P := oP P) kk (if_pos c3)))) (fun c3 => V_aload_n (tat ok_X7_findSlanted_0 (i := 32) (q := 63) rfl rfl) 0 rfl rfl <|
    V_iload (tat ok_X7_findSlanted_0 (i := 33) (q := 65) rfl rfl) 3 rfl <|
    V_iload (tat ok_X7_findSlanted_0 (i := 34) (q := 67) rfl rfl) 4 rfl <|
    V_lload_n (tat ok_X7_findSlanted_0 (i := 35) (q := 68) rfl rfl) 2 rfl rfl <|
    V_aload_n (tat ok_X7_findSlanted_0 (i := 36) (q := 69) rfl rfl) 1 rfl rfl <|
    V_iload (tat ok_X7_findSlanted_0 (i := 37) (q := 71) rfl rfl) 3 rfl <|
    V_iload (tat ok_X7_findSlanted_0 (i := 38) (q := 73) rfl rfl) 4 rfl <|
    V_cv2 (ct_X0_squaresTurned I L r1 a4 a5 hr1) mo_X0_squaresTurned (tat ok_X7_findSlanted_0 (i := 39) (q := 76) rfl rfl) ml_X7_71 hr1 ⟨by decide, _, rfl, rfl⟩ ⟨(Nat.le_of_ble_eq_true rfl), (Nat.le_of_ble_eq_true rfl)⟩ ⟨(Nat.le_of_ble_eq_true rfl), (Nat.le_of_ble_eq_true rfl)⟩ (Nat.le_of_ble_eq_true rfl) <|
    V_lxor (tat ok_X7_findSlanted_1 (i := 0) (q := 77) rfl rfl) <|
    oP_case (jx (P := oP P) kk (if_neg c3)) (fun v4 e4 _ => V_cv3v (ct_X7_trySlants I L a4 a5 (a2 ^^^ (F_X0_squaresTurned I r1 a4 a5))  e4) mo_X7_trySlants (tat ok_X7_findSlanted_1 (i := 1) (q := 80) rfl rfl) ml_X7_105 rfl ⟨by decide, _, rfl, rfl⟩ ⟨(Nat.le_of_ble_eq_true rfl), (Nat.le_of_ble_eq_true rfl)⟩ ⟨(Nat.le_of_ble_eq_true rfl), (Nat.le_of_ble_eq_true rfl)⟩ (Nat.le_of_ble_eq_true rfl) <|
    V_iinc (v := (a5 + 1)) (lv' := [(5, .int (a5 + 1)), (0, .ref 27), (1, .ref r1), (2, .long a2), (4, .int a4)]) (tat ok_X7_findSlanted_1 (i := 2) (q := 83) rfl rfl) 4 rfl (ia ic_1) (Nat.le_of_ble_eq_true rfl) rfl <|
    V_goto (tat ok_X7_findSlanted_1 (i := 3) (q := 86) rfl rfl) rfl <|
    V_pick [1, 2, 3, 4, 0] rfl (hk ((a5 + 1), v4) (jx (P := oP P) kk (Eq.trans (if_neg c3) (ob e4))))))
def F_X7_findSlanted_86_2 (I : WI) (L : WL) (r1 : Nat) (a2 : Int64) (a4 : Int32) : Option (WI ⊕ (Int32 × WI)) :=
  some (.inr ((a4 + 1), I))
theorem V_X7_findSlanted_86_2  {I : WI} {L : WL} {r1 : Nat} {a2 : Int64} {a4 : Int32} {P : (WI ⊕ (Int32 × WI)) → Prop} {t : Tg} (hr1 : isX0 r1) (he : ∀ x : WI, P (.inl x) → V (zM x_X7_findSlanted 5 0 0 t) 92 [(0, .ref 27), (1, .ref r1), (2, .long a2)] [] ly0 x L R0 0 0) (hk : ∀ x : (Int32 × WI), P (.inr x) → V (zM x_X7_findSlanted 5 0 0 t) 41 [(0, .ref 27), (1, .ref r1), (2, .long a2), (4, .int (p1 x))] [] ly0 (p2 x) L R0 0 0) (kk : oP P (F_X7_findSlanted_86_2 I L r1 a2 a4)) : V (zM x_X7_findSlanted 5 0 0 t) 86 [(0, .ref 27), (1, .ref r1), (2, .long a2), (4, .int a4)] [] ly0 I L R0 0 0 :=
  V_iinc (v := (a4 + 1)) (lv' := [(4, .int (a4 + 1)), (0, .ref 27), (1, .ref r1), (2, .long a2)]) (tat ok_X7_findSlanted_1 (i := 4) (q := 89) rfl rfl) 3 rfl (ia ic_1) (Nat.le_of_ble_eq_true rfl) rfl <|
    V_goto (tat ok_X7_findSlanted_1 (i := 5) (q := 92) rfl rfl) rfl <|
    V_pick [1, 2, 3, 0] rfl (hk ((a4 + 1), I) (jx (P := oP P) kk rfl))
def F_X7_findSlanted_53_2 (I : WI) (L : WL) (r1 : Nat) (a2 : Int64) (a4 : Int32) (a5 : Int32) : Option (WI ⊕ (Int32 × WI)) :=
  (lpp (fun x => (F_X7_findSlanted_53_3 (p2 x) L r1 a2 a4 (p1 x))) 4294967296 (a5, I)).bind (fun q => (F_X7_findSlanted_86_2 q L r1 a2 a4))
theorem V_X7_findSlanted_53_2  {I : WI} {L : WL} {r1 : Nat} {a2 : Int64} {a4 : Int32} {a5 : Int32} {P : (WI ⊕ (Int32 × WI)) → Prop} {t : Tg} (hr1 : isX0 r1) (hb5 : bz a5 = a5) (he : ∀ x : WI, P (.inl x) → V (zM x_X7_findSlanted 5 0 0 t) 92 [(0, .ref 27), (1, .ref r1), (2, .long a2)] [] ly0 x L R0 0 0) (hk : ∀ x : (Int32 × WI), P (.inr x) → V (zM x_X7_findSlanted 5 0 0 t) 41 [(0, .ref 27), (1, .ref r1), (2, .long a2), (4, .int (p1 x))] [] ly0 (p2 x) L R0 0 0) (kk : oP P (F_X7_findSlanted_53_2 I L r1 a2 a4 a5)) : V (zM x_X7_findSlanted 5 0 0 t) 53 [(0, .ref 27), (1, .ref r1), (2, .long a2), (4, .int a4), (5, .int a5)] [] ly0 I L R0 0 0 :=
  V_lpp (fun x => (F_X7_findSlanted_53_3 (p2 x) L r1 a2 a4 (p1 x))) (fun x => V (zM x_X7_findSlanted 5 0 0 t) 53 [(0, .ref 27), (1, .ref r1), (2, .long a2), (4, .int a4), (5, .int (p1 x))] [] ly0 (p2 x) L R0 0 0) (fun x => oP P ((F_X7_findSlanted_86_2 x L r1 a2 a4))) (s := (a5, I)) (fun x e0 => V_X7_findSlanted_53_3 (P := Sum.elim (fun x => oP P ((F_X7_findSlanted_86_2 x L r1 a2 a4))) (fun x => V (zM x_X7_findSlanted 5 0 0 t) 53 [(0, .ref 27), (1, .ref r1), (2, .long a2), (4, .int a4), (5, .int (p1 x))] [] ly0 (p2 x) L R0 0 0)) hr1 (fun x e => V_X7_findSlanted_86_2 hr1 he hk e) (fun _ e => e) e0) (oP_bind (f := fun q => _) kk)
def F_X7_findSlanted_41_2 (I : WI) (L : WL) (r1 : Nat) (a2 : Int64) (a4 : Int32) : Option (WI ⊕ (Int32 × WI)) :=
  (if (F_X0_everyRow I r1) < a4 then some (.inl I) else (F_X7_findSlanted_53_2 I L r1 a2 a4 0))
theorem V_X7_findSlanted_41_2  {I : WI} {L : WL} {r1 : Nat} {a2 : Int64} {a4 : Int32} {P : (WI ⊕ (Int32 × WI)) → Prop} {t : Tg} (hr1 : isX0 r1) (he : ∀ x : WI, P (.inl x) → V (zM x_X7_findSlanted 5 0 0 t) 92 [(0, .ref 27), (1, .ref r1), (2, .long a2)] [] ly0 x L R0 0 0) (hk : ∀ x : (Int32 × WI), P (.inr x) → V (zM x_X7_findSlanted 5 0 0 t) 41 [(0, .ref 27), (1, .ref r1), (2, .long a2), (4, .int (p1 x))] [] ly0 (p2 x) L R0 0 0) (kk : oP P (F_X7_findSlanted_41_2 I L r1 a2 a4)) : V (zM x_X7_findSlanted 5 0 0 t) 41 [(0, .ref 27), (1, .ref r1), (2, .long a2), (4, .int a4)] [] ly0 I L R0 0 0 :=
  V_iload (tat ok_X7_findSlanted_0 (i := 22) (q := 43) rfl rfl) 3 rfl <|
    V_aload_n (tat ok_X7_findSlanted_0 (i := 23) (q := 44) rfl rfl) 1 rfl rfl <|
    V_cv0 (ct_X0_everyRow I L r1 hr1) mo_X0_everyRow (tat ok_X7_findSlanted_0 (i := 24) (q := 47) rfl rfl) ml_X7_55 hr1 ⟨by decide, _, rfl, rfl⟩ ⟨(Nat.le_of_ble_eq_true rfl), (Nat.le_of_ble_eq_true rfl)⟩ ⟨(Nat.le_of_ble_eq_true rfl), (Nat.le_of_ble_eq_true rfl)⟩ (Nat.le_of_ble_eq_true rfl) <|
    V_icmp_gt (tat ok_X7_findSlanted_0 (i := 25) (q := 50) rfl rfl) rfl (fun c2 => V_pick [0, 1, 2] rfl (he I (jx (P := oP P) kk (if_pos c2)))) (fun c2 => V_iconst (tat ok_X7_findSlanted_0 (i := 26) (q := 51) rfl rfl) ic_0 <|
    V_istore (lv' := [(5, .int 0), (0, .ref 27), (1, .ref r1), (2, .long a2), (4, .int a4)]) (tat ok_X7_findSlanted_0 (i := 27) (q := 53) rfl rfl) (Nat.le_of_ble_eq_true rfl) rfl <|
    V_pick [1, 2, 3, 4, 0] rfl (V_X7_findSlanted_53_2 hr1 rfl he hk (jx (P := oP P) kk (if_neg c2))))
def F_X7_findSlanted_92 (I : WI) (L : WL) (r1 : Nat) (a2 : Int64) : Option (WI × WL) :=
  some (I, L)
theorem V_X7_findSlanted_92  {I : WI} {L : WL} {r1 : Nat} {a2 : Int64}  {P : (WI × WL) → Prop} {t : Tg} (hr1 : isX0 r1) (hr : ∀ v, P v → t = (none, ly0, (p1 v), (p2 v), R0)) (kk : oP P (F_X7_findSlanted_92 I L r1 a2)) : V (zM x_X7_findSlanted 5 0 0 t) 92 [(0, .ref 27), (1, .ref r1), (2, .long a2)] [] ly0 I L R0 0 0 :=
  V_vret (tat ok_X7_findSlanted_1 (i := 6) (q := 93) rfl rfl) rfl (hr (I, L) (jx (P := oP P) kk rfl)) ⟨(Nat.le_of_ble_eq_true rfl), (Nat.le_of_ble_eq_true rfl)⟩
def F_X7_findSlanted_41 (I : WI) (L : WL) (r1 : Nat) (a2 : Int64) (a4 : Int32) : Option (WI × WL) :=
  (lpp (fun x => (F_X7_findSlanted_41_2 (p2 x) L r1 a2 (p1 x))) 4294967296 (a4, I)).bind (fun q => (F_X7_findSlanted_92 q L r1 a2))
theorem V_X7_findSlanted_41  {I : WI} {L : WL} {r1 : Nat} {a2 : Int64} {a4 : Int32} {P : (WI × WL) → Prop} {t : Tg} (hr1 : isX0 r1) (hb4 : bz a4 = a4) (hr : ∀ v, P v → t = (none, ly0, (p1 v), (p2 v), R0)) (kk : oP P (F_X7_findSlanted_41 I L r1 a2 a4)) : V (zM x_X7_findSlanted 5 0 0 t) 41 [(0, .ref 27), (1, .ref r1), (2, .long a2), (4, .int a4)] [] ly0 I L R0 0 0 :=
  V_lpp (fun x => (F_X7_findSlanted_41_2 (p2 x) L r1 a2 (p1 x))) (fun x => V (zM x_X7_findSlanted 5 0 0 t) 41 [(0, .ref 27), (1, .ref r1), (2, .long a2), (4, .int (p1 x))] [] ly0 (p2 x) L R0 0 0) (fun x => oP P ((F_X7_findSlanted_92 x L r1 a2))) (s := (a4, I)) (fun x e0 => V_X7_findSlanted_41_2 (P := Sum.elim (fun x => oP P ((F_X7_findSlanted_92 x L r1 a2))) (fun x => V (zM x_X7_findSlanted 5 0 0 t) 41 [(0, .ref 27), (1, .ref r1), (2, .long a2), (4, .int (p1 x))] [] ly0 (p2 x) L R0 0 0)) hr1 (fun x e => V_X7_findSlanted_92 hr1 hr e) (fun _ e => e) e0) (oP_bind (f := fun q => _) kk)
def F_X7_findSlanted_33 (I : WI) (L : WL) (r1 : Nat) (a2 : Int64) : Option (WI × WL) :=
  (F_X7_findSlanted_41 (u2 I 27 0 0) L r1 a2 0)
theorem V_X7_findSlanted_33  {I : WI} {L : WL} {r1 : Nat} {a2 : Int64}  {P : (WI × WL) → Prop} {t : Tg} (hr1 : isX0 r1) (hr : ∀ v, P v → t = (none, ly0, (p1 v), (p2 v), R0)) (kk : oP P (F_X7_findSlanted_33 I L r1 a2)) : V (zM x_X7_findSlanted 5 0 0 t) 33 [(0, .ref 27), (1, .ref r1), (2, .long a2)] [] ly0 I L R0 0 0 :=
  V_aload_n (tat ok_X7_findSlanted_0 (i := 17) (q := 34) rfl rfl) 0 rfl rfl <|
    V_iconst (tat ok_X7_findSlanted_0 (i := 18) (q := 35) rfl rfl) ic_0 <|
    V_putZ (tat ok_X7_findSlanted_0 (i := 19) (q := 38) rfl rfl) fk_X7_40 rfl rfl rfl <|
    V_iconst (tat ok_X7_findSlanted_0 (i := 20) (q := 39) rfl rfl) ic_0 <|
    V_istore (lv' := [(4, .int 0), (0, .ref 27), (1, .ref r1), (2, .long a2)]) (tat ok_X7_findSlanted_0 (i := 21) (q := 41) rfl rfl) (Nat.le_of_ble_eq_true rfl) rfl <|
    V_pick [1, 2, 3, 0] rfl (V_X7_findSlanted_41 hr1 rfl hr (jx (P := oP P) kk rfl))
def F_X7_findSlanted_3 (I : WI) (L : WL) (r1 : Nat) (a2 : Int64) (a4 : Int32) : Option (WI × WL) :=
  (frp0 (fun i x => (F_X7_findSlanted_13_1 I x r1 a2 i)) 15 (fu a4 15) a4 L).bind (fun q => (F_X7_findSlanted_33 I (p2 q) r1 a2))
theorem V_X7_findSlanted_3  {I : WI} {L : WL} {r1 : Nat} {a2 : Int64} {a4 : Int32} {P : (WI × WL) → Prop} {t : Tg} (hr1 : isX0 r1) (hb4 : bz a4 = a4) (hr : ∀ v, P v → t = (none, ly0, (p1 v), (p2 v), R0)) (kk : oP P (F_X7_findSlanted_3 I L r1 a2 a4)) : V (zM x_X7_findSlanted 5 0 0 t) 3 [(0, .ref 27), (1, .ref r1), (2, .long a2), (4, .int a4)] [] ly0 I L R0 0 0 :=
  V_frp0 (fun i x => (F_X7_findSlanted_13_1 I x r1 a2 i)) 15 (fun i x => V (zM x_X7_findSlanted 5 0 0 t) 3 [(0, .ref 27), (1, .ref r1), (2, .long a2), (4, .int i)] [] ly0 I x R0 0 0) (fun i x => oP P ((F_X7_findSlanted_33 I x r1 a2))) (c := a4) (s := L) (fun i x kx kb => V_iload (tat ok_X7_findSlanted_0 (i := 2) (q := 5) rfl rfl) 3 rfl <|
    V_aload_n (tat ok_X7_findSlanted_0 (i := 3) (q := 6) rfl rfl) 0 rfl rfl <|
    V_getR (tat ok_X7_findSlanted_0 (i := 4) (q := 9) rfl rfl) fk_X7_9 rfl rfl <|
    V_alen (tat ok_X7_findSlanted_0 (i := 5) (q := 10) rfl rfl) rfl ⟨by decide, by decide⟩ nl_15 <|
    V_icmp_ge (tat ok_X7_findSlanted_0 (i := 6) (q := 13) rfl rfl) rfl (fun c0 => V_pick [0, 1, 2] rfl (V_X7_findSlanted_33 hr1 hr (kx c0))) (fun c0 => V_X7_findSlanted_13_1 (P := (fun x => (fun i x => V (zM x_X7_findSlanted 5 0 0 t) 3 [(0, .ref 27), (1, .ref r1), (2, .long a2), (4, .int i)] [] ly0 I x R0 0 0) (i + 1) x)) hr1 (fun _ e => e) (kb c0))) (oP_bind (f := fun q => _) kk)
def F_X7_findSlanted (I : WI) (L : WL) (r1 : Nat) (a2 : Int64) : Option (WI × WL) :=
  (F_X7_findSlanted_3 I L r1 a2 0)
theorem V_X7_findSlanted  {I : WI} {L : WL} {r1 : Nat} {a2 : Int64}  {P : (WI × WL) → Prop} {t : Tg} (hr1 : isX0 r1) (hr : ∀ v, P v → t = (none, ly0, (p1 v), (p2 v), R0)) (kk : oP P (F_X7_findSlanted I L r1 a2)) : V (zM x_X7_findSlanted 5 0 0 t) 0 [(0, .ref 27), (1, .ref r1), (2, .long a2)] [] ly0 I L R0 0 0 :=
  V_iconst (tat ok_X7_findSlanted_0 (i := 0) (q := 1) rfl rfl) ic_0 <|
    V_istore (lv' := [(4, .int 0), (0, .ref 27), (1, .ref r1), (2, .long a2)]) (tat ok_X7_findSlanted_0 (i := 1) (q := 3) rfl rfl) (Nat.le_of_ble_eq_true rfl) rfl <|
    V_pick [1, 2, 3, 0] rfl (V_X7_findSlanted_3 hr1 rfl hr (jx (P := oP P) kk rfl))
theorem ct_X7_findSlanted  (I : WI) (L : WL) (r1 : Nat) (a2 : Int64) (hr1 : isX0 r1) {v : (WI × WL)} (h : (F_X7_findSlanted I L r1 a2) = some v) : Ct x_X7_findSlanted 5 [.ref 27, .ref r1, .long a2] ly0 I L R0 0 0 (none, ly0, (p1 v), (p2 v), R0) :=
  Ct_of_V mo_X7_findSlanted.1 (Nat.le_of_ble_eq_true rfl) (V_X7_findSlanted (P := fun x => x = v) hr1 (fun _ e => by rw [e]) (by rw [h]; exact rfl))
def F_X7_findSpoilt_90_1 (I : WI) (r1 : Nat) (a2 : Int64) (a4 : Int64) (a6 : Int32) : WI :=
  I
theorem V_X7_findSpoilt_90_1  {I : WI} {L : WL} {r1 : Nat} {a2 : Int64} {a4 : Int64} {a6 : Int32}  {P : WI → Prop} {t : Tg} (hr1 : isX0 r1) (hk : ∀ x : WI, P x → V (zM x_X7_findSpoilt 6 0 0 t) 20 [(0, .ref 27), (1, .ref r1), (2, .long a2), (4, .long a4), (6, .int (a6 + 1))] [] ly0 x L R0 0 0) (kk : P (F_X7_findSpoilt_90_1 I r1 a2 a4 a6)) : V (zM x_X7_findSpoilt 6 0 0 t) 90 [(0, .ref 27), (1, .ref r1), (2, .long a2), (4, .long a4), (6, .int a6)] [] ly0 I L R0 0 0 :=
  V_iinc (v := (a6 + 1)) (lv' := [(6, .int (a6 + 1)), (0, .ref 27), (1, .ref r1), (2, .long a2), (4, .long a4)]) (tat ok_X7_findSpoilt_1 (i := 9) (q := 93) rfl rfl) 4 rfl (ia ic_1) (Nat.le_of_ble_eq_true rfl) rfl <|
    V_goto (tat ok_X7_findSpoilt_1 (i := 10) (q := 96) rfl rfl) rfl <|
    V_pick [1, 2, 3, 4, 0] rfl (hk I (jx (P := P) kk rfl))
def F_X7_findSpoilt_77_1 (I : WI) (r1 : Nat) (a2 : Int64) (a4 : Int64) (a6 : Int32) (s0 : Int32) : WI :=
  (F_X7_findSpoilt_90_1 (u2 (u2 I 27 7 s0) 27 6 (((u2 I 27 7 s0) 27 6) + 1)) r1 a2 a4 a6)
theorem V_X7_findSpoilt_77_1  {I : WI} {L : WL} {r1 : Nat} {a2 : Int64} {a4 : Int64} {a6 : Int32} {s0 : Int32} {P : WI → Prop} {t : Tg} (hr1 : isX0 r1) (hk : ∀ x : WI, P x → V (zM x_X7_findSpoilt 6 0 0 t) 20 [(0, .ref 27), (1, .ref r1), (2, .long a2), (4, .long a4), (6, .int (a6 + 1))] [] ly0 x L R0 0 0) (kk : P (F_X7_findSpoilt_77_1 I r1 a2 a4 a6 s0)) : V (zM x_X7_findSpoilt 6 0 0 t) 77 [(0, .ref 27), (1, .ref r1), (2, .long a2), (4, .long a4), (6, .int a6)] [.int s0, .ref 27] ly0 I L R0 0 0 :=
  V_putI (tat ok_X7_findSpoilt_1 (i := 2) (q := 80) rfl rfl) fk_X7_115 rfl rfl <|
    V_aload_n (tat ok_X7_findSpoilt_1 (i := 3) (q := 81) rfl rfl) 0 rfl rfl <|
    V_dup (tat ok_X7_findSpoilt_1 (i := 4) (q := 82) rfl rfl) rfl <|
    V_getI (tat ok_X7_findSpoilt_1 (i := 5) (q := 85) rfl rfl) fk_X7_112 rfl <|
    V_iconst (tat ok_X7_findSpoilt_1 (i := 6) (q := 86) rfl rfl) ic_1 <|
    V_iadd (tat ok_X7_findSpoilt_1 (i := 7) (q := 87) rfl rfl) <|
    V_putI (tat ok_X7_findSpoilt_1 (i := 8) (q := 90) rfl rfl) fk_X7_112 rfl rfl <|
    V_X7_findSpoilt_90_1 hr1 hk (jx (P := P) kk rfl)
def F_X7_findSpoilt_30_1 (I : WI) (r1 : Nat) (a2 : Int64) (a4 : Int64) (a6 : Int32) : WI :=
  (if (F_X0_hasSquare I r1 (a6 >>> (3 &&& 31)) (a6 &&& 7)) = 0 then (F_X7_findSpoilt_90_1 I r1 a2 a4 a6) else (if (lg_cmp (F_X0_formOf I r1 (lsh 1 a6)) a4) = 0 then (if (I 27 6) = 0 then (F_X7_findSpoilt_77_1 I r1 a2 a4 a6 a6) else (F_X7_findSpoilt_77_1 I r1 a2 a4 a6 (I 27 7))) else (F_X7_findSpoilt_90_1 I r1 a2 a4 a6)))
theorem V_X7_findSpoilt_30_1  {I : WI} {L : WL} {r1 : Nat} {a2 : Int64} {a4 : Int64} {a6 : Int32}  {P : WI → Prop} {t : Tg} (hr1 : isX0 r1) (hk : ∀ x : WI, P x → V (zM x_X7_findSpoilt 6 0 0 t) 20 [(0, .ref 27), (1, .ref r1), (2, .long a2), (4, .long a4), (6, .int (a6 + 1))] [] ly0 x L R0 0 0) (kk : P (F_X7_findSpoilt_30_1 I r1 a2 a4 a6)) : V (zM x_X7_findSpoilt 6 0 0 t) 30 [(0, .ref 27), (1, .ref r1), (2, .long a2), (4, .long a4), (6, .int a6)] [] ly0 I L R0 0 0 :=
  V_aload_n (tat ok_X7_findSpoilt_0 (i := 17) (q := 31) rfl rfl) 1 rfl rfl <|
    V_iload (tat ok_X7_findSpoilt_0 (i := 18) (q := 33) rfl rfl) 4 rfl <|
    V_iconst (tat ok_X7_findSpoilt_0 (i := 19) (q := 34) rfl rfl) ic_3 <|
    V_ishr (tat ok_X7_findSpoilt_0 (i := 20) (q := 35) rfl rfl) <|
    V_iload (tat ok_X7_findSpoilt_0 (i := 21) (q := 37) rfl rfl) 4 rfl <|
    V_bipush (tat ok_X7_findSpoilt_0 (i := 22) (q := 39) rfl rfl) bp_7 <|
    V_iand (tat ok_X7_findSpoilt_0 (i := 23) (q := 40) rfl rfl) <|
    V_cv2 (ct_X0_hasSquare I L r1 (a6 >>> (3 &&& 31)) (a6 &&& 7) hr1) mo_X0_hasSquare (tat ok_X7_findSpoilt_0 (i := 24) (q := 43) rfl rfl) ml_X7_118 hr1 ⟨by decide, _, rfl, rfl⟩ ⟨(Nat.le_of_ble_eq_true rfl), (Nat.le_of_ble_eq_true rfl)⟩ ⟨(Nat.le_of_ble_eq_true rfl), (Nat.le_of_ble_eq_true rfl)⟩ (Nat.le_of_ble_eq_true rfl) <|
    V_if_eq (tat ok_X7_findSpoilt_0 (i := 25) (q := 46) rfl rfl) rfl (fun c1 => V_X7_findSpoilt_90_1 hr1 hk (jx (P := P) kk (if_pos c1))) (fun c1 => V_aload_n (tat ok_X7_findSpoilt_0 (i := 26) (q := 47) rfl rfl) 1 rfl rfl <|
    V_lconst (v := 1) (tat ok_X7_findSpoilt_0 (i := 27) (q := 48) rfl rfl) rfl <|
    V_iload (tat ok_X7_findSpoilt_0 (i := 28) (q := 50) rfl rfl) 4 rfl <|
    V_lshl (tat ok_X7_findSpoilt_0 (i := 29) (q := 51) rfl rfl) <|
    V_cv1 (ct_X0_formOf I L r1 (lsh 1 a6) hr1) mo_X0_formOf (tat ok_X7_findSpoilt_0 (i := 30) (q := 54) rfl rfl) ml_X7_34 hr1 ⟨by decide, _, rfl, rfl⟩ ⟨(Nat.le_of_ble_eq_true rfl), (Nat.le_of_ble_eq_true rfl)⟩ ⟨(Nat.le_of_ble_eq_true rfl), (Nat.le_of_ble_eq_true rfl)⟩ (Nat.le_of_ble_eq_true rfl) <|
    V_lload (tat ok_X7_findSpoilt_0 (i := 31) (q := 56) rfl rfl) 3 rfl <|
    V_lcmp (tat ok_X7_findSpoilt_0 (i := 32) (q := 57) rfl rfl) <|
    V_if_ne (tat ok_X7_findSpoilt_0 (i := 33) (q := 60) rfl rfl) rfl (fun c2 => V_X7_findSpoilt_90_1 hr1 hk (jx (P := P) kk (Eq.trans (if_neg c1) (if_neg c2)))) (fun c2 => V_aload_n (tat ok_X7_findSpoilt_0 (i := 34) (q := 61) rfl rfl) 0 rfl rfl <|
    V_aload_n (tat ok_X7_findSpoilt_0 (i := 35) (q := 62) rfl rfl) 0 rfl rfl <|
    V_getI (tat ok_X7_findSpoilt_0 (i := 36) (q := 65) rfl rfl) fk_X7_112 rfl <|
    V_if_ne (tat ok_X7_findSpoilt_0 (i := 37) (q := 68) rfl rfl) rfl (fun c3 => V_aload_n (tat ok_X7_findSpoilt_1 (i := 0) (q := 74) rfl rfl) 0 rfl rfl <|
    V_getI (tat ok_X7_findSpoilt_1 (i := 1) (q := 77) rfl rfl) fk_X7_115 rfl <|
    V_X7_findSpoilt_77_1 hr1 hk (jx (P := P) kk (Eq.trans (if_neg c1) (Eq.trans (if_pos c2) (if_neg c3))))) (fun c3 => V_iload (tat ok_X7_findSpoilt_0 (i := 38) (q := 70) rfl rfl) 4 rfl <|
    V_goto (tat ok_X7_findSpoilt_0 (i := 39) (q := 73) rfl rfl) rfl <|
    V_X7_findSpoilt_77_1 hr1 hk (jx (P := P) kk (Eq.trans (if_neg c1) (Eq.trans (if_pos c2) (if_pos c3)))))))
def F_X7_findSpoilt_96 (I : WI) (r1 : Nat) (a2 : Int64) : WI :=
  I
theorem V_X7_findSpoilt_96  {I : WI} {L : WL} {r1 : Nat} {a2 : Int64}  {P : WI → Prop} {t : Tg} (hr1 : isX0 r1) (hr : ∀ v, P v → t = (none, ly0, v, L, R0)) (kk : P (F_X7_findSpoilt_96 I r1 a2)) : V (zM x_X7_findSpoilt 6 0 0 t) 96 [(0, .ref 27), (1, .ref r1), (2, .long a2)] [] ly0 I L R0 0 0 :=
  V_vret (tat ok_X7_findSpoilt_1 (i := 11) (q := 97) rfl rfl) rfl (hr I (jx (P := P) kk rfl)) ⟨(Nat.le_of_ble_eq_true rfl), (Nat.le_of_ble_eq_true rfl)⟩
def F_X7_findSpoilt_20 (I : WI) (r1 : Nat) (a2 : Int64) (a4 : Int64) (a6 : Int32) : WI :=
  (fun q : Int32 × WI => (F_X7_findSpoilt_96 (p2 q) r1 a2)) (fr0 (fun i x => (F_X7_findSpoilt_30_1 x r1 a2 a4 i)) 64 (fu a6 64) a6 I)
theorem V_X7_findSpoilt_20  {I : WI} {L : WL} {r1 : Nat} {a2 : Int64} {a4 : Int64} {a6 : Int32} {P : WI → Prop} {t : Tg} (hr1 : isX0 r1) (hb6 : bz a6 = a6) (hr : ∀ v, P v → t = (none, ly0, v, L, R0)) (kk : P (F_X7_findSpoilt_20 I r1 a2 a4 a6)) : V (zM x_X7_findSpoilt 6 0 0 t) 20 [(0, .ref 27), (1, .ref r1), (2, .long a2), (4, .long a4), (6, .int a6)] [] ly0 I L R0 0 0 :=
  V_fr0 (fun i x => (F_X7_findSpoilt_30_1 x r1 a2 a4 i)) 64 (fun i x => V (zM x_X7_findSpoilt 6 0 0 t) 20 [(0, .ref 27), (1, .ref r1), (2, .long a2), (4, .long a4), (6, .int i)] [] ly0 x L R0 0 0) (fun i x => P ((F_X7_findSpoilt_96 x r1 a2))) (c := a6) (s := I) (fun i x kx kb => V_iload (tat ok_X7_findSpoilt_0 (i := 12) (q := 22) rfl rfl) 4 rfl <|
    V_aload_n (tat ok_X7_findSpoilt_0 (i := 13) (q := 23) rfl rfl) 0 rfl rfl <|
    V_getR (tat ok_X7_findSpoilt_0 (i := 14) (q := 26) rfl rfl) fk_X7_15 rfl rfl <|
    V_alen (tat ok_X7_findSpoilt_0 (i := 15) (q := 27) rfl rfl) rfl ⟨by decide, by decide⟩ nl_64 <|
    V_icmp_ge (tat ok_X7_findSpoilt_0 (i := 16) (q := 30) rfl rfl) rfl (fun c0 => V_pick [0, 1, 2] rfl (V_X7_findSpoilt_96 hr1 hr (kx c0))) (fun c0 => V_X7_findSpoilt_30_1 (P := (fun x => (fun i x => V (zM x_X7_findSpoilt 6 0 0 t) 20 [(0, .ref 27), (1, .ref r1), (2, .long a2), (4, .long a4), (6, .int i)] [] ly0 x L R0 0 0) (i + 1) x)) hr1 (fun _ e => e) (kb c0))) kk
def F_X7_findSpoilt (I : WI) (r1 : Nat) (a2 : Int64) : WI :=
  (F_X7_findSpoilt_20 (u2 (u2 I 27 6 0) 27 7 0) r1 a2 (F_X0_formOf I r1 a2) 0)
theorem V_X7_findSpoilt  {I : WI} {L : WL} {r1 : Nat} {a2 : Int64}  {P : WI → Prop} {t : Tg} (hr1 : isX0 r1) (hr : ∀ v, P v → t = (none, ly0, v, L, R0)) (kk : P (F_X7_findSpoilt I r1 a2)) : V (zM x_X7_findSpoilt 6 0 0 t) 0 [(0, .ref 27), (1, .ref r1), (2, .long a2)] [] ly0 I L R0 0 0 :=
  V_aload_n (tat ok_X7_findSpoilt_0 (i := 0) (q := 1) rfl rfl) 1 rfl rfl <|
    V_lload_n (tat ok_X7_findSpoilt_0 (i := 1) (q := 2) rfl rfl) 2 rfl rfl <|
    V_cv1 (ct_X0_formOf I L r1 a2 hr1) mo_X0_formOf (tat ok_X7_findSpoilt_0 (i := 2) (q := 5) rfl rfl) ml_X7_34 hr1 ⟨by decide, _, rfl, rfl⟩ ⟨(Nat.le_of_ble_eq_true rfl), (Nat.le_of_ble_eq_true rfl)⟩ ⟨(Nat.le_of_ble_eq_true rfl), (Nat.le_of_ble_eq_true rfl)⟩ (Nat.le_of_ble_eq_true rfl) <|
    V_lstore (lv' := [(4, .long (F_X0_formOf I r1 a2)), (0, .ref 27), (1, .ref r1), (2, .long a2)]) (tat ok_X7_findSpoilt_0 (i := 3) (q := 7) rfl rfl) (Nat.le_of_ble_eq_true rfl) rfl <|
    V_aload_n (tat ok_X7_findSpoilt_0 (i := 4) (q := 8) rfl rfl) 1 rfl rfl <|
    V_iconst (tat ok_X7_findSpoilt_0 (i := 5) (q := 9) rfl rfl) ic_0 <|
    V_putI (tat ok_X7_findSpoilt_0 (i := 6) (q := 12) rfl rfl) fk_X7_112 rfl rfl <|
    V_aload_n (tat ok_X7_findSpoilt_0 (i := 7) (q := 13) rfl rfl) 1 rfl rfl <|
    V_iconst (tat ok_X7_findSpoilt_0 (i := 8) (q := 14) rfl rfl) ic_0 <|
    V_putI (tat ok_X7_findSpoilt_0 (i := 9) (q := 17) rfl rfl) fk_X7_115 rfl rfl <|
    V_iconst (tat ok_X7_findSpoilt_0 (i := 10) (q := 18) rfl rfl) ic_0 <|
    V_istore (lv' := [(6, .int 0), (4, .long (F_X0_formOf I r1 a2)), (0, .ref 27), (1, .ref r1), (2, .long a2)]) (tat ok_X7_findSpoilt_0 (i := 11) (q := 20) rfl rfl) (Nat.le_of_ble_eq_true rfl) rfl <|
    V_pick [2, 3, 4, 1, 0] rfl (V_X7_findSpoilt_20 hr1 rfl hr (jx (P := P) kk rfl))
theorem ct_X7_findSpoilt  (I : WI) (L : WL) (r1 : Nat) (a2 : Int64) (hr1 : isX0 r1) : Ct x_X7_findSpoilt 6 [.ref 27, .ref r1, .long a2] ly0 I L R0 0 0 (none, ly0, (F_X7_findSpoilt I r1 a2), L, R0) :=
  Ct_of_V mo_X7_findSpoilt.1 (Nat.le_of_ble_eq_true rfl) (V_X7_findSpoilt (P := fun x => x = (F_X7_findSpoilt I r1 a2)) hr1 (fun _ e => by rw [e]) rfl)
def F_X7_pairWith_82_1 (I : WI) (L : WL) (r1 : Nat) (a2 : Int32) (a3 : Int64) (a5 : Int32) : Option WI :=
  some I
theorem V_X7_pairWith_82_1  {I : WI} {L : WL} {r1 : Nat} {a2 : Int32} {a3 : Int64} {a5 : Int32}  {P : WI → Prop} {t : Tg} (hr1 : isX0 r1) (hk : ∀ x : WI, P x → V (zM x_X7_pairWith 2 0 0 t) 3 [(0, .ref 27), (1, .ref r1), (2, .int a2), (3, .long a3), (5, .int (a5 + 1))] [] ly0 x L R0 0 0) (kk : oP P (F_X7_pairWith_82_1 I L r1 a2 a3 a5)) : V (zM x_X7_pairWith 2 0 0 t) 82 [(0, .ref 27), (1, .ref r1), (2, .int a2), (3, .long a3), (5, .int a5)] [] ly0 I L R0 0 0 :=
  V_iinc (v := (a5 + 1)) (lv' := [(5, .int (a5 + 1)), (0, .ref 27), (1, .ref r1), (2, .int a2), (3, .long a3)]) (tat ok_X7_pairWith_1 (i := 5) (q := 85) rfl rfl) 4 rfl (ia ic_1) (Nat.le_of_ble_eq_true rfl) rfl <|
    V_goto (tat ok_X7_pairWith_1 (i := 6) (q := 88) rfl rfl) rfl <|
    V_pick [1, 2, 3, 4, 0] rfl (hk I (jx (P := oP P) kk rfl))
def F_X7_pairWith_69_1 (I : WI) (L : WL) (r1 : Nat) (a2 : Int32) (a3 : Int64) (a5 : Int32) (s0 : Int32) : Option WI :=
  (F_X7_pairWith_82_1 (u2 (u2 I 27 7 s0) 27 6 (((u2 I 27 7 s0) 27 6) + 1)) L r1 a2 a3 a5)
theorem V_X7_pairWith_69_1  {I : WI} {L : WL} {r1 : Nat} {a2 : Int32} {a3 : Int64} {a5 : Int32} {s0 : Int32} {P : WI → Prop} {t : Tg} (hr1 : isX0 r1) (hk : ∀ x : WI, P x → V (zM x_X7_pairWith 2 0 0 t) 3 [(0, .ref 27), (1, .ref r1), (2, .int a2), (3, .long a3), (5, .int (a5 + 1))] [] ly0 x L R0 0 0) (kk : oP P (F_X7_pairWith_69_1 I L r1 a2 a3 a5 s0)) : V (zM x_X7_pairWith 2 0 0 t) 69 [(0, .ref 27), (1, .ref r1), (2, .int a2), (3, .long a3), (5, .int a5)] [.int s0, .ref 27] ly0 I L R0 0 0 :=
  V_putI (tat ok_X7_pairWith_0 (i := 38) (q := 72) rfl rfl) fk_X7_115 rfl rfl <|
    V_aload_n (tat ok_X7_pairWith_0 (i := 39) (q := 73) rfl rfl) 0 rfl rfl <|
    V_dup (tat ok_X7_pairWith_1 (i := 0) (q := 74) rfl rfl) rfl <|
    V_getI (tat ok_X7_pairWith_1 (i := 1) (q := 77) rfl rfl) fk_X7_112 rfl <|
    V_iconst (tat ok_X7_pairWith_1 (i := 2) (q := 78) rfl rfl) ic_1 <|
    V_iadd (tat ok_X7_pairWith_1 (i := 3) (q := 79) rfl rfl) <|
    V_putI (tat ok_X7_pairWith_1 (i := 4) (q := 82) rfl rfl) fk_X7_112 rfl rfl <|
    V_X7_pairWith_82_1 hr1 hk (jx (P := oP P) kk rfl)
def F_X7_pairWith_13_1 (I : WI) (L : WL) (r1 : Nat) (a2 : Int32) (a3 : Int64) (a5 : Int32) : Option WI :=
  (if a5 ≤ a2 then (F_X7_pairWith_82_1 I L r1 a2 a3 a5) else (if (F_X0_hasSquare I r1 (a5 >>> (3 &&& 31)) (a5 &&& 7)) = 0 then (F_X7_pairWith_82_1 I L r1 a2 a3 a5) else (if a5 < 0 ∨ 64 ≤ Int32.toNatClampNeg a5 then none else (if (lg_cmp (L 29 (Int32.toNatClampNeg a5)) a3) = 0 then (if (I 27 6) = 0 then (F_X7_pairWith_69_1 I L r1 a2 a3 a5 ((64 * a2) + a5)) else (F_X7_pairWith_69_1 I L r1 a2 a3 a5 (I 27 7))) else (F_X7_pairWith_82_1 I L r1 a2 a3 a5)))))
theorem V_X7_pairWith_13_1  {I : WI} {L : WL} {r1 : Nat} {a2 : Int32} {a3 : Int64} {a5 : Int32}  {P : WI → Prop} {t : Tg} (hr1 : isX0 r1) (hk : ∀ x : WI, P x → V (zM x_X7_pairWith 2 0 0 t) 3 [(0, .ref 27), (1, .ref r1), (2, .int a2), (3, .long a3), (5, .int (a5 + 1))] [] ly0 x L R0 0 0) (kk : oP P (F_X7_pairWith_13_1 I L r1 a2 a3 a5)) : V (zM x_X7_pairWith 2 0 0 t) 13 [(0, .ref 27), (1, .ref r1), (2, .int a2), (3, .long a3), (5, .int a5)] [] ly0 I L R0 0 0 :=
  V_iload (tat ok_X7_pairWith_0 (i := 7) (q := 15) rfl rfl) 4 rfl <|
    V_iload_n (tat ok_X7_pairWith_0 (i := 8) (q := 16) rfl rfl) 2 rfl rfl <|
    V_icmp_le (tat ok_X7_pairWith_0 (i := 9) (q := 19) rfl rfl) rfl (fun c1 => V_X7_pairWith_82_1 hr1 hk (jx (P := oP P) kk (if_pos c1))) (fun c1 => V_aload_n (tat ok_X7_pairWith_0 (i := 10) (q := 20) rfl rfl) 1 rfl rfl <|
    V_iload (tat ok_X7_pairWith_0 (i := 11) (q := 22) rfl rfl) 4 rfl <|
    V_iconst (tat ok_X7_pairWith_0 (i := 12) (q := 23) rfl rfl) ic_3 <|
    V_ishr (tat ok_X7_pairWith_0 (i := 13) (q := 24) rfl rfl) <|
    V_iload (tat ok_X7_pairWith_0 (i := 14) (q := 26) rfl rfl) 4 rfl <|
    V_bipush (tat ok_X7_pairWith_0 (i := 15) (q := 28) rfl rfl) bp_7 <|
    V_iand (tat ok_X7_pairWith_0 (i := 16) (q := 29) rfl rfl) <|
    V_cv2 (ct_X0_hasSquare I L r1 (a5 >>> (3 &&& 31)) (a5 &&& 7) hr1) mo_X0_hasSquare (tat ok_X7_pairWith_0 (i := 17) (q := 32) rfl rfl) ml_X7_118 hr1 ⟨by decide, _, rfl, rfl⟩ ⟨(Nat.le_of_ble_eq_true rfl), (Nat.le_of_ble_eq_true rfl)⟩ ⟨(Nat.le_of_ble_eq_true rfl), (Nat.le_of_ble_eq_true rfl)⟩ (Nat.le_of_ble_eq_true rfl) <|
    V_if_eq (tat ok_X7_pairWith_0 (i := 18) (q := 35) rfl rfl) rfl (fun c2 => V_X7_pairWith_82_1 hr1 hk (jx (P := oP P) kk (Eq.trans (if_neg c1) (if_pos c2)))) (fun c2 => V_aload_n (tat ok_X7_pairWith_0 (i := 19) (q := 36) rfl rfl) 0 rfl rfl <|
    V_getR (tat ok_X7_pairWith_0 (i := 20) (q := 39) rfl rfl) fk_X7_15 rfl rfl <|
    V_iload (tat ok_X7_pairWith_0 (i := 21) (q := 41) rfl rfl) 4 rfl <|
    (if c3 : a5 < 0 ∨ 64 ≤ Int32.toNatClampNeg a5 then ((jx (P := oP P) kk (Eq.trans (if_neg c1) (Eq.trans (if_neg c2) (if_pos c3))))).elim else V_lald (tat ok_X7_pairWith_0 (i := 22) (q := 42) rfl rfl) rfl c3 <|
    V_lload_n (tat ok_X7_pairWith_0 (i := 23) (q := 43) rfl rfl) 3 rfl rfl <|
    V_lcmp (tat ok_X7_pairWith_0 (i := 24) (q := 44) rfl rfl) <|
    V_if_ne (tat ok_X7_pairWith_0 (i := 25) (q := 47) rfl rfl) rfl (fun c4 => V_X7_pairWith_82_1 hr1 hk (jx (P := oP P) kk (Eq.trans (if_neg c1) (Eq.trans (if_neg c2) (Eq.trans (if_neg c3) (if_neg c4)))))) (fun c4 => V_aload_n (tat ok_X7_pairWith_0 (i := 26) (q := 48) rfl rfl) 0 rfl rfl <|
    V_aload_n (tat ok_X7_pairWith_0 (i := 27) (q := 49) rfl rfl) 0 rfl rfl <|
    V_getI (tat ok_X7_pairWith_0 (i := 28) (q := 52) rfl rfl) fk_X7_112 rfl <|
    V_if_ne (tat ok_X7_pairWith_0 (i := 29) (q := 55) rfl rfl) rfl (fun c5 => V_aload_n (tat ok_X7_pairWith_0 (i := 36) (q := 66) rfl rfl) 0 rfl rfl <|
    V_getI (tat ok_X7_pairWith_0 (i := 37) (q := 69) rfl rfl) fk_X7_115 rfl <|
    V_X7_pairWith_69_1 hr1 hk (jx (P := oP P) kk (Eq.trans (if_neg c1) (Eq.trans (if_neg c2) (Eq.trans (if_neg c3) (Eq.trans (if_pos c4) (if_neg c5))))))) (fun c5 => V_bipush (tat ok_X7_pairWith_0 (i := 30) (q := 57) rfl rfl) bp_64 <|
    V_iload_n (tat ok_X7_pairWith_0 (i := 31) (q := 58) rfl rfl) 2 rfl rfl <|
    V_imul (tat ok_X7_pairWith_0 (i := 32) (q := 59) rfl rfl) <|
    V_iload (tat ok_X7_pairWith_0 (i := 33) (q := 61) rfl rfl) 4 rfl <|
    V_iadd (tat ok_X7_pairWith_0 (i := 34) (q := 62) rfl rfl) <|
    V_goto (tat ok_X7_pairWith_0 (i := 35) (q := 65) rfl rfl) rfl <|
    V_X7_pairWith_69_1 hr1 hk (jx (P := oP P) kk (Eq.trans (if_neg c1) (Eq.trans (if_neg c2) (Eq.trans (if_neg c3) (Eq.trans (if_pos c4) (if_pos c5)))))))))))
def F_X7_pairWith_88 (I : WI) (L : WL) (r1 : Nat) (a2 : Int32) (a3 : Int64) : Option WI :=
  some I
theorem V_X7_pairWith_88  {I : WI} {L : WL} {r1 : Nat} {a2 : Int32} {a3 : Int64}  {P : WI → Prop} {t : Tg} (hr1 : isX0 r1) (hr : ∀ v, P v → t = (none, ly0, v, L, R0)) (kk : oP P (F_X7_pairWith_88 I L r1 a2 a3)) : V (zM x_X7_pairWith 2 0 0 t) 88 [(0, .ref 27), (1, .ref r1), (2, .int a2), (3, .long a3)] [] ly0 I L R0 0 0 :=
  V_vret (tat ok_X7_pairWith_1 (i := 7) (q := 89) rfl rfl) rfl (hr I (jx (P := oP P) kk rfl)) ⟨(Nat.le_of_ble_eq_true rfl), (Nat.le_of_ble_eq_true rfl)⟩
def F_X7_pairWith_3 (I : WI) (L : WL) (r1 : Nat) (a2 : Int32) (a3 : Int64) (a5 : Int32) : Option WI :=
  (frp0 (fun i x => (F_X7_pairWith_13_1 x L r1 a2 a3 i)) 64 (fu a5 64) a5 I).bind (fun q => (F_X7_pairWith_88 (p2 q) L r1 a2 a3))
theorem V_X7_pairWith_3  {I : WI} {L : WL} {r1 : Nat} {a2 : Int32} {a3 : Int64} {a5 : Int32} {P : WI → Prop} {t : Tg} (hr1 : isX0 r1) (hb5 : bz a5 = a5) (hr : ∀ v, P v → t = (none, ly0, v, L, R0)) (kk : oP P (F_X7_pairWith_3 I L r1 a2 a3 a5)) : V (zM x_X7_pairWith 2 0 0 t) 3 [(0, .ref 27), (1, .ref r1), (2, .int a2), (3, .long a3), (5, .int a5)] [] ly0 I L R0 0 0 :=
  V_frp0 (fun i x => (F_X7_pairWith_13_1 x L r1 a2 a3 i)) 64 (fun i x => V (zM x_X7_pairWith 2 0 0 t) 3 [(0, .ref 27), (1, .ref r1), (2, .int a2), (3, .long a3), (5, .int i)] [] ly0 x L R0 0 0) (fun i x => oP P ((F_X7_pairWith_88 x L r1 a2 a3))) (c := a5) (s := I) (fun i x kx kb => V_iload (tat ok_X7_pairWith_0 (i := 2) (q := 5) rfl rfl) 4 rfl <|
    V_aload_n (tat ok_X7_pairWith_0 (i := 3) (q := 6) rfl rfl) 0 rfl rfl <|
    V_getR (tat ok_X7_pairWith_0 (i := 4) (q := 9) rfl rfl) fk_X7_15 rfl rfl <|
    V_alen (tat ok_X7_pairWith_0 (i := 5) (q := 10) rfl rfl) rfl ⟨by decide, by decide⟩ nl_64 <|
    V_icmp_ge (tat ok_X7_pairWith_0 (i := 6) (q := 13) rfl rfl) rfl (fun c0 => V_pick [0, 1, 2, 3] rfl (V_X7_pairWith_88 hr1 hr (kx c0))) (fun c0 => V_X7_pairWith_13_1 (P := (fun x => (fun i x => V (zM x_X7_pairWith 2 0 0 t) 3 [(0, .ref 27), (1, .ref r1), (2, .int a2), (3, .long a3), (5, .int i)] [] ly0 x L R0 0 0) (i + 1) x)) hr1 (fun _ e => e) (kb c0))) (oP_bind (f := fun q => _) kk)
def F_X7_pairWith (I : WI) (L : WL) (r1 : Nat) (a2 : Int32) (a3 : Int64) : Option WI :=
  (F_X7_pairWith_3 I L r1 a2 a3 0)
theorem V_X7_pairWith  {I : WI} {L : WL} {r1 : Nat} {a2 : Int32} {a3 : Int64}  {P : WI → Prop} {t : Tg} (hr1 : isX0 r1) (hr : ∀ v, P v → t = (none, ly0, v, L, R0)) (kk : oP P (F_X7_pairWith I L r1 a2 a3)) : V (zM x_X7_pairWith 2 0 0 t) 0 [(0, .ref 27), (1, .ref r1), (2, .int a2), (3, .long a3)] [] ly0 I L R0 0 0 :=
  V_iconst (tat ok_X7_pairWith_0 (i := 0) (q := 1) rfl rfl) ic_0 <|
    V_istore (lv' := [(5, .int 0), (0, .ref 27), (1, .ref r1), (2, .int a2), (3, .long a3)]) (tat ok_X7_pairWith_0 (i := 1) (q := 3) rfl rfl) (Nat.le_of_ble_eq_true rfl) rfl <|
    V_pick [1, 2, 3, 4, 0] rfl (V_X7_pairWith_3 hr1 rfl hr (jx (P := oP P) kk rfl))
theorem ct_X7_pairWith  (I : WI) (L : WL) (r1 : Nat) (a2 : Int32) (a3 : Int64) (hr1 : isX0 r1) {v : WI} (h : (F_X7_pairWith I L r1 a2 a3) = some v) : Ct x_X7_pairWith 2 [.ref 27, .ref r1, .int a2, .long a3] ly0 I L R0 0 0 (none, ly0, v, L, R0) :=
  Ct_of_V mo_X7_pairWith.1 (Nat.le_of_ble_eq_true rfl) (V_X7_pairWith (P := fun x => x = v) hr1 (fun _ e => by rw [e]) (by rw [h]; exact rfl))
def F_X7_findBothSpoilt_30_1 (I : WI) (L : WL) (r1 : Nat) (a2 : Int64) (a4 : Int64) (a6 : Int32) : Option WL :=
  (if a6 < 0 ∨ 64 ≤ Int32.toNatClampNeg a6 then none else some (u2 L 29 (Int32.toNatClampNeg a6) (F_X0_formOf I r1 (lsh 1 a6))))
theorem V_X7_findBothSpoilt_30_1  {I : WI} {L : WL} {r1 : Nat} {a2 : Int64} {a4 : Int64} {a6 : Int32}  {P : WL → Prop} {t : Tg} (hr1 : isX0 r1) (hk : ∀ x : WL, P x → V (zM x_X7_findBothSpoilt 6 0 0 t) 20 [(0, .ref 27), (1, .ref r1), (2, .long a2), (4, .long a4), (6, .int (a6 + 1))] [] ly0 I x R0 0 0) (kk : oP P (F_X7_findBothSpoilt_30_1 I L r1 a2 a4 a6)) : V (zM x_X7_findBothSpoilt 6 0 0 t) 30 [(0, .ref 27), (1, .ref r1), (2, .long a2), (4, .long a4), (6, .int a6)] [] ly0 I L R0 0 0 :=
  V_aload_n (tat ok_X7_findBothSpoilt_0 (i := 17) (q := 31) rfl rfl) 0 rfl rfl <|
    V_getR (tat ok_X7_findBothSpoilt_0 (i := 18) (q := 34) rfl rfl) fk_X7_15 rfl rfl <|
    V_iload (tat ok_X7_findBothSpoilt_0 (i := 19) (q := 36) rfl rfl) 4 rfl <|
    V_aload_n (tat ok_X7_findBothSpoilt_0 (i := 20) (q := 37) rfl rfl) 1 rfl rfl <|
    V_lconst (v := 1) (tat ok_X7_findBothSpoilt_0 (i := 21) (q := 38) rfl rfl) rfl <|
    V_iload (tat ok_X7_findBothSpoilt_0 (i := 22) (q := 40) rfl rfl) 4 rfl <|
    V_lshl (tat ok_X7_findBothSpoilt_0 (i := 23) (q := 41) rfl rfl) <|
    V_cv1 (ct_X0_formOf I L r1 (lsh 1 a6) hr1) mo_X0_formOf (tat ok_X7_findBothSpoilt_0 (i := 24) (q := 44) rfl rfl) ml_X7_34 hr1 ⟨by decide, _, rfl, rfl⟩ ⟨(Nat.le_of_ble_eq_true rfl), (Nat.le_of_ble_eq_true rfl)⟩ ⟨(Nat.le_of_ble_eq_true rfl), (Nat.le_of_ble_eq_true rfl)⟩ (Nat.le_of_ble_eq_true rfl) <|
    (if c1 : a6 < 0 ∨ 64 ≤ Int32.toNatClampNeg a6 then ((jx (P := oP P) kk (if_pos c1))).elim else V_last (tat ok_X7_findBothSpoilt_0 (i := 25) (q := 45) rfl rfl) rfl c1 <|
    V_iinc (v := (a6 + 1)) (lv' := [(6, .int (a6 + 1)), (0, .ref 27), (1, .ref r1), (2, .long a2), (4, .long a4)]) (tat ok_X7_findBothSpoilt_0 (i := 26) (q := 48) rfl rfl) 4 rfl (ia ic_1) (Nat.le_of_ble_eq_true rfl) rfl <|
    V_goto (tat ok_X7_findBothSpoilt_0 (i := 27) (q := 51) rfl rfl) rfl <|
    V_pick [1, 2, 3, 4, 0] rfl (hk (u2 L 29 (Int32.toNatClampNeg a6) (F_X0_formOf I r1 (lsh 1 a6))) (jx (P := oP P) kk (if_neg c1))))
def F_X7_findBothSpoilt_97_2 (I : WI) (L : WL) (r1 : Nat) (a2 : Int64) (a4 : Int64) (a6 : Int32) : Option WI :=
  some I
theorem V_X7_findBothSpoilt_97_2  {I : WI} {L : WL} {r1 : Nat} {a2 : Int64} {a4 : Int64} {a6 : Int32}  {P : WI → Prop} {t : Tg} (hr1 : isX0 r1) (hk : ∀ x : WI, P x → V (zM x_X7_findBothSpoilt 6 0 0 t) 54 [(0, .ref 27), (1, .ref r1), (2, .long a2), (4, .long a4), (6, .int (a6 + 1))] [] ly0 x L R0 0 0) (kk : oP P (F_X7_findBothSpoilt_97_2 I L r1 a2 a4 a6)) : V (zM x_X7_findBothSpoilt 6 0 0 t) 97 [(0, .ref 27), (1, .ref r1), (2, .long a2), (4, .long a4), (6, .int a6)] [] ly0 I L R0 0 0 :=
  V_iinc (v := (a6 + 1)) (lv' := [(6, .int (a6 + 1)), (0, .ref 27), (1, .ref r1), (2, .long a2), (4, .long a4)]) (tat ok_X7_findBothSpoilt_1 (i := 14) (q := 100) rfl rfl) 4 rfl (ia ic_1) (Nat.le_of_ble_eq_true rfl) rfl <|
    V_goto (tat ok_X7_findBothSpoilt_1 (i := 15) (q := 103) rfl rfl) rfl <|
    V_pick [1, 2, 3, 4, 0] rfl (hk I (jx (P := oP P) kk rfl))
def F_X7_findBothSpoilt_64_2 (I : WI) (L : WL) (r1 : Nat) (a2 : Int64) (a4 : Int64) (a6 : Int32) : Option WI :=
  (if (F_X0_hasSquare I r1 (a6 >>> (3 &&& 31)) (a6 &&& 7)) = 0 then (F_X7_findBothSpoilt_97_2 I L r1 a2 a4 a6) else (if a6 < 0 ∨ 64 ≤ Int32.toNatClampNeg a6 then none else (Option.bind (F_X7_pairWith I L r1 a6 (a4 ^^^ (L 29 (Int32.toNatClampNeg a6)))) (fun v4 => (F_X7_findBothSpoilt_97_2 v4 L r1 a2 a4 a6)))))
theorem V_X7_findBothSpoilt_64_2  {I : WI} {L : WL} {r1 : Nat} {a2 : Int64} {a4 : Int64} {a6 : Int32}  {P : WI → Prop} {t : Tg} (hr1 : isX0 r1) (hk : ∀ x : WI, P x → V (zM x_X7_findBothSpoilt 6 0 0 t) 54 [(0, .ref 27), (1, .ref r1), (2, .long a2), (4, .long a4), (6, .int (a6 + 1))] [] ly0 x L R0 0 0) (kk : oP P (F_X7_findBothSpoilt_64_2 I L r1 a2 a4 a6)) : V (zM x_X7_findBothSpoilt 6 0 0 t) 64 [(0, .ref 27), (1, .ref r1), (2, .long a2), (4, .long a4), (6, .int a6)] [] ly0 I L R0 0 0 :=
  V_aload_n (tat ok_X7_findBothSpoilt_0 (i := 35) (q := 65) rfl rfl) 1 rfl rfl <|
    V_iload (tat ok_X7_findBothSpoilt_0 (i := 36) (q := 67) rfl rfl) 4 rfl <|
    V_iconst (tat ok_X7_findBothSpoilt_0 (i := 37) (q := 68) rfl rfl) ic_3 <|
    V_ishr (tat ok_X7_findBothSpoilt_0 (i := 38) (q := 69) rfl rfl) <|
    V_iload (tat ok_X7_findBothSpoilt_0 (i := 39) (q := 71) rfl rfl) 4 rfl <|
    V_bipush (tat ok_X7_findBothSpoilt_1 (i := 0) (q := 73) rfl rfl) bp_7 <|
    V_iand (tat ok_X7_findBothSpoilt_1 (i := 1) (q := 74) rfl rfl) <|
    V_cv2 (ct_X0_hasSquare I L r1 (a6 >>> (3 &&& 31)) (a6 &&& 7) hr1) mo_X0_hasSquare (tat ok_X7_findBothSpoilt_1 (i := 2) (q := 77) rfl rfl) ml_X7_118 hr1 ⟨by decide, _, rfl, rfl⟩ ⟨(Nat.le_of_ble_eq_true rfl), (Nat.le_of_ble_eq_true rfl)⟩ ⟨(Nat.le_of_ble_eq_true rfl), (Nat.le_of_ble_eq_true rfl)⟩ (Nat.le_of_ble_eq_true rfl) <|
    V_if_eq (tat ok_X7_findBothSpoilt_1 (i := 3) (q := 80) rfl rfl) rfl (fun c2 => V_X7_findBothSpoilt_97_2 hr1 hk (jx (P := oP P) kk (if_pos c2))) (fun c2 => V_aload_n (tat ok_X7_findBothSpoilt_1 (i := 4) (q := 81) rfl rfl) 0 rfl rfl <|
    V_aload_n (tat ok_X7_findBothSpoilt_1 (i := 5) (q := 82) rfl rfl) 1 rfl rfl <|
    V_iload (tat ok_X7_findBothSpoilt_1 (i := 6) (q := 84) rfl rfl) 4 rfl <|
    V_lload (tat ok_X7_findBothSpoilt_1 (i := 7) (q := 86) rfl rfl) 3 rfl <|
    V_aload_n (tat ok_X7_findBothSpoilt_1 (i := 8) (q := 87) rfl rfl) 0 rfl rfl <|
    V_getR (tat ok_X7_findBothSpoilt_1 (i := 9) (q := 90) rfl rfl) fk_X7_15 rfl rfl <|
    V_iload (tat ok_X7_findBothSpoilt_1 (i := 10) (q := 92) rfl rfl) 4 rfl <|
    (if c3 : a6 < 0 ∨ 64 ≤ Int32.toNatClampNeg a6 then ((jx (P := oP P) kk (Eq.trans (if_neg c2) (if_pos c3)))).elim else V_lald (tat ok_X7_findBothSpoilt_1 (i := 11) (q := 93) rfl rfl) rfl c3 <|
    V_lxor (tat ok_X7_findBothSpoilt_1 (i := 12) (q := 94) rfl rfl) <|
    oP_case (jx (P := oP P) kk (Eq.trans (if_neg c2) (if_neg c3))) (fun v4 e4 _ => V_cv3v (ct_X7_pairWith I L r1 a6 (a4 ^^^ (L 29 (Int32.toNatClampNeg a6))) hr1 e4) mo_X7_pairWith (tat ok_X7_findBothSpoilt_1 (i := 13) (q := 97) rfl rfl) ml_X7_122 rfl ⟨by decide, _, rfl, rfl⟩ ⟨(Nat.le_of_ble_eq_true rfl), (Nat.le_of_ble_eq_true rfl)⟩ ⟨(Nat.le_of_ble_eq_true rfl), (Nat.le_of_ble_eq_true rfl)⟩ (Nat.le_of_ble_eq_true rfl) <|
    V_X7_findBothSpoilt_97_2 hr1 hk (jx (P := oP P) kk (Eq.trans (if_neg c2) (Eq.trans (if_neg c3) (ob e4)))))))
def F_X7_findBothSpoilt_103 (I : WI) (L : WL) (r1 : Nat) (a2 : Int64) : Option (WI × WL) :=
  some (I, L)
theorem V_X7_findBothSpoilt_103  {I : WI} {L : WL} {r1 : Nat} {a2 : Int64}  {P : (WI × WL) → Prop} {t : Tg} (hr1 : isX0 r1) (hr : ∀ v, P v → t = (none, ly0, (p1 v), (p2 v), R0)) (kk : oP P (F_X7_findBothSpoilt_103 I L r1 a2)) : V (zM x_X7_findBothSpoilt 6 0 0 t) 103 [(0, .ref 27), (1, .ref r1), (2, .long a2)] [] ly0 I L R0 0 0 :=
  V_vret (tat ok_X7_findBothSpoilt_1 (i := 16) (q := 104) rfl rfl) rfl (hr (I, L) (jx (P := oP P) kk rfl)) ⟨(Nat.le_of_ble_eq_true rfl), (Nat.le_of_ble_eq_true rfl)⟩
def F_X7_findBothSpoilt_54 (I : WI) (L : WL) (r1 : Nat) (a2 : Int64) (a4 : Int64) (a6 : Int32) : Option (WI × WL) :=
  (frp0 (fun i x => (F_X7_findBothSpoilt_64_2 x L r1 a2 a4 i)) 64 (fu a6 64) a6 I).bind (fun q => (F_X7_findBothSpoilt_103 (p2 q) L r1 a2))
theorem V_X7_findBothSpoilt_54  {I : WI} {L : WL} {r1 : Nat} {a2 : Int64} {a4 : Int64} {a6 : Int32} {P : (WI × WL) → Prop} {t : Tg} (hr1 : isX0 r1) (hb6 : bz a6 = a6) (hr : ∀ v, P v → t = (none, ly0, (p1 v), (p2 v), R0)) (kk : oP P (F_X7_findBothSpoilt_54 I L r1 a2 a4 a6)) : V (zM x_X7_findBothSpoilt 6 0 0 t) 54 [(0, .ref 27), (1, .ref r1), (2, .long a2), (4, .long a4), (6, .int a6)] [] ly0 I L R0 0 0 :=
  V_frp0 (fun i x => (F_X7_findBothSpoilt_64_2 x L r1 a2 a4 i)) 64 (fun i x => V (zM x_X7_findBothSpoilt 6 0 0 t) 54 [(0, .ref 27), (1, .ref r1), (2, .long a2), (4, .long a4), (6, .int i)] [] ly0 x L R0 0 0) (fun i x => oP P ((F_X7_findBothSpoilt_103 x L r1 a2))) (c := a6) (s := I) (fun i x kx kb => V_iload (tat ok_X7_findBothSpoilt_0 (i := 30) (q := 56) rfl rfl) 4 rfl <|
    V_aload_n (tat ok_X7_findBothSpoilt_0 (i := 31) (q := 57) rfl rfl) 0 rfl rfl <|
    V_getR (tat ok_X7_findBothSpoilt_0 (i := 32) (q := 60) rfl rfl) fk_X7_15 rfl rfl <|
    V_alen (tat ok_X7_findBothSpoilt_0 (i := 33) (q := 61) rfl rfl) rfl ⟨by decide, by decide⟩ nl_64 <|
    V_icmp_ge (tat ok_X7_findBothSpoilt_0 (i := 34) (q := 64) rfl rfl) rfl (fun c0 => V_pick [0, 1, 2] rfl (V_X7_findBothSpoilt_103 hr1 hr (kx c0))) (fun c0 => V_X7_findBothSpoilt_64_2 (P := (fun x => (fun i x => V (zM x_X7_findBothSpoilt 6 0 0 t) 54 [(0, .ref 27), (1, .ref r1), (2, .long a2), (4, .long a4), (6, .int i)] [] ly0 x L R0 0 0) (i + 1) x)) hr1 (fun _ e => e) (kb c0))) (oP_bind (f := fun q => _) kk)
def F_X7_findBothSpoilt_51 (I : WI) (L : WL) (r1 : Nat) (a2 : Int64) (a4 : Int64) : Option (WI × WL) :=
  (F_X7_findBothSpoilt_54 I L r1 a2 a4 0)
theorem V_X7_findBothSpoilt_51  {I : WI} {L : WL} {r1 : Nat} {a2 : Int64} {a4 : Int64} {P : (WI × WL) → Prop} {t : Tg} (hr1 : isX0 r1) (hr : ∀ v, P v → t = (none, ly0, (p1 v), (p2 v), R0)) (kk : oP P (F_X7_findBothSpoilt_51 I L r1 a2 a4)) : V (zM x_X7_findBothSpoilt 6 0 0 t) 51 [(0, .ref 27), (1, .ref r1), (2, .long a2), (4, .long a4)] [] ly0 I L R0 0 0 :=
  V_iconst (tat ok_X7_findBothSpoilt_0 (i := 28) (q := 52) rfl rfl) ic_0 <|
    V_istore (lv' := [(6, .int 0), (0, .ref 27), (1, .ref r1), (2, .long a2), (4, .long a4)]) (tat ok_X7_findBothSpoilt_0 (i := 29) (q := 54) rfl rfl) (Nat.le_of_ble_eq_true rfl) rfl <|
    V_pick [1, 2, 3, 4, 0] rfl (V_X7_findBothSpoilt_54 hr1 rfl hr (jx (P := oP P) kk rfl))
def F_X7_findBothSpoilt_20 (I : WI) (L : WL) (r1 : Nat) (a2 : Int64) (a4 : Int64) (a6 : Int32) : Option (WI × WL) :=
  (frp0 (fun i x => (F_X7_findBothSpoilt_30_1 I x r1 a2 a4 i)) 64 (fu a6 64) a6 L).bind (fun q => (F_X7_findBothSpoilt_51 I (p2 q) r1 a2 a4))
theorem V_X7_findBothSpoilt_20  {I : WI} {L : WL} {r1 : Nat} {a2 : Int64} {a4 : Int64} {a6 : Int32} {P : (WI × WL) → Prop} {t : Tg} (hr1 : isX0 r1) (hb6 : bz a6 = a6) (hr : ∀ v, P v → t = (none, ly0, (p1 v), (p2 v), R0)) (kk : oP P (F_X7_findBothSpoilt_20 I L r1 a2 a4 a6)) : V (zM x_X7_findBothSpoilt 6 0 0 t) 20 [(0, .ref 27), (1, .ref r1), (2, .long a2), (4, .long a4), (6, .int a6)] [] ly0 I L R0 0 0 :=
  V_frp0 (fun i x => (F_X7_findBothSpoilt_30_1 I x r1 a2 a4 i)) 64 (fun i x => V (zM x_X7_findBothSpoilt 6 0 0 t) 20 [(0, .ref 27), (1, .ref r1), (2, .long a2), (4, .long a4), (6, .int i)] [] ly0 I x R0 0 0) (fun i x => oP P ((F_X7_findBothSpoilt_51 I x r1 a2 a4))) (c := a6) (s := L) (fun i x kx kb => V_iload (tat ok_X7_findBothSpoilt_0 (i := 12) (q := 22) rfl rfl) 4 rfl <|
    V_aload_n (tat ok_X7_findBothSpoilt_0 (i := 13) (q := 23) rfl rfl) 0 rfl rfl <|
    V_getR (tat ok_X7_findBothSpoilt_0 (i := 14) (q := 26) rfl rfl) fk_X7_15 rfl rfl <|
    V_alen (tat ok_X7_findBothSpoilt_0 (i := 15) (q := 27) rfl rfl) rfl ⟨by decide, by decide⟩ nl_64 <|
    V_icmp_ge (tat ok_X7_findBothSpoilt_0 (i := 16) (q := 30) rfl rfl) rfl (fun c0 => V_pick [0, 1, 2, 3] rfl (V_X7_findBothSpoilt_51 hr1 hr (kx c0))) (fun c0 => V_X7_findBothSpoilt_30_1 (P := (fun x => (fun i x => V (zM x_X7_findBothSpoilt 6 0 0 t) 20 [(0, .ref 27), (1, .ref r1), (2, .long a2), (4, .long a4), (6, .int i)] [] ly0 I x R0 0 0) (i + 1) x)) hr1 (fun _ e => e) (kb c0))) (oP_bind (f := fun q => _) kk)
def F_X7_findBothSpoilt (I : WI) (L : WL) (r1 : Nat) (a2 : Int64) : Option (WI × WL) :=
  (F_X7_findBothSpoilt_20 (u2 (u2 I 27 6 0) 27 7 0) L r1 a2 (F_X0_formOf I r1 a2) 0)
theorem V_X7_findBothSpoilt  {I : WI} {L : WL} {r1 : Nat} {a2 : Int64}  {P : (WI × WL) → Prop} {t : Tg} (hr1 : isX0 r1) (hr : ∀ v, P v → t = (none, ly0, (p1 v), (p2 v), R0)) (kk : oP P (F_X7_findBothSpoilt I L r1 a2)) : V (zM x_X7_findBothSpoilt 6 0 0 t) 0 [(0, .ref 27), (1, .ref r1), (2, .long a2)] [] ly0 I L R0 0 0 :=
  V_aload_n (tat ok_X7_findBothSpoilt_0 (i := 0) (q := 1) rfl rfl) 1 rfl rfl <|
    V_lload_n (tat ok_X7_findBothSpoilt_0 (i := 1) (q := 2) rfl rfl) 2 rfl rfl <|
    V_cv1 (ct_X0_formOf I L r1 a2 hr1) mo_X0_formOf (tat ok_X7_findBothSpoilt_0 (i := 2) (q := 5) rfl rfl) ml_X7_34 hr1 ⟨by decide, _, rfl, rfl⟩ ⟨(Nat.le_of_ble_eq_true rfl), (Nat.le_of_ble_eq_true rfl)⟩ ⟨(Nat.le_of_ble_eq_true rfl), (Nat.le_of_ble_eq_true rfl)⟩ (Nat.le_of_ble_eq_true rfl) <|
    V_lstore (lv' := [(4, .long (F_X0_formOf I r1 a2)), (0, .ref 27), (1, .ref r1), (2, .long a2)]) (tat ok_X7_findBothSpoilt_0 (i := 3) (q := 7) rfl rfl) (Nat.le_of_ble_eq_true rfl) rfl <|
    V_aload_n (tat ok_X7_findBothSpoilt_0 (i := 4) (q := 8) rfl rfl) 1 rfl rfl <|
    V_iconst (tat ok_X7_findBothSpoilt_0 (i := 5) (q := 9) rfl rfl) ic_0 <|
    V_putI (tat ok_X7_findBothSpoilt_0 (i := 6) (q := 12) rfl rfl) fk_X7_112 rfl rfl <|
    V_aload_n (tat ok_X7_findBothSpoilt_0 (i := 7) (q := 13) rfl rfl) 1 rfl rfl <|
    V_iconst (tat ok_X7_findBothSpoilt_0 (i := 8) (q := 14) rfl rfl) ic_0 <|
    V_putI (tat ok_X7_findBothSpoilt_0 (i := 9) (q := 17) rfl rfl) fk_X7_115 rfl rfl <|
    V_iconst (tat ok_X7_findBothSpoilt_0 (i := 10) (q := 18) rfl rfl) ic_0 <|
    V_istore (lv' := [(6, .int 0), (4, .long (F_X0_formOf I r1 a2)), (0, .ref 27), (1, .ref r1), (2, .long a2)]) (tat ok_X7_findBothSpoilt_0 (i := 11) (q := 20) rfl rfl) (Nat.le_of_ble_eq_true rfl) rfl <|
    V_pick [2, 3, 4, 1, 0] rfl (V_X7_findBothSpoilt_20 hr1 rfl hr (jx (P := oP P) kk rfl))
theorem ct_X7_findBothSpoilt  (I : WI) (L : WL) (r1 : Nat) (a2 : Int64) (hr1 : isX0 r1) {v : (WI × WL)} (h : (F_X7_findBothSpoilt I L r1 a2) = some v) : Ct x_X7_findBothSpoilt 6 [.ref 27, .ref r1, .long a2] ly0 I L R0 0 0 (none, ly0, (p1 v), (p2 v), R0) :=
  Ct_of_V mo_X7_findBothSpoilt.1 (Nat.le_of_ble_eq_true rfl) (V_X7_findBothSpoilt (P := fun x => x = v) hr1 (fun _ e => by rw [e]) (by rw [h]; exact rfl))
