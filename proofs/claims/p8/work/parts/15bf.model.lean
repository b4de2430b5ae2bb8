theorem V_X9_readLine  {I : WI} {L : WL}   {P : (WI × WL) → Prop} {t : Tg} (hr : ∀ v, P v → t = (none, ly0, (p1 v), (p2 v), R0)) (kk : oP P (F_X9_readLine I L)) : V (zM x_X9_readLine 6 0 0 t) 0 [(0, .ref 33)] [] ly0 I L R0 0 0 :=
  V_aload_n (tat ok_X9_readLine_0 (i := 0) (q := 1) rfl rfl) 0 rfl rfl <|
    V_getI (tat ok_X9_readLine_0 (i := 1) (q := 4) rfl rfl) fk_X9_124 rfl <|
    V_iconst (tat ok_X9_readLine_0 (i := 2) (q := 5) rfl rfl) ic_1 <|
    V_icmp_ne (tat ok_X9_readLine_0 (i := 3) (q := 8) rfl rfl) rfl (fun c1 => V_bipush (tat ok_X9_readLine_0 (i := 7) (q := 17) rfl rfl) bp_m4 <|
    V_X9_readLine_17  hr (jx (P := oP P) kk (if_neg c1))) (fun c1 => V_aload_n (tat ok_X9_readLine_0 (i := 4) (q := 9) rfl rfl) 0 rfl rfl <|
    oP_case (jx (P := oP P) kk (if_pos c1)) (fun v2 e2 _ => V_cv0 (ct_X9_lineNow I L   e2) mo_X9_lineNow (tat ok_X9_readLine_0 (i := 5) (q := 12) rfl rfl) ml_X9_174 rfl ⟨by decide, _, rfl, rfl⟩ ⟨(Nat.le_of_ble_eq_true rfl), (Nat.le_of_ble_eq_true rfl)⟩ ⟨(Nat.le_of_ble_eq_true rfl), (Nat.le_of_ble_eq_true rfl)⟩ (Nat.le_of_ble_eq_true rfl) <|
    V_goto (tat ok_X9_readLine_0 (i := 6) (q := 15) rfl rfl) rfl <|
    V_X9_readLine_17  hr (jx (P := oP P) kk (Eq.trans (if_pos c1) (ob e2)))))
theorem ct_X9_readLine  (I : WI) (L : WL)  {v : (WI × WL)} (h : (F_X9_readLine I L) = some v) : Ct x_X9_readLine 6 [.ref 33] ly0 I L R0 0 0 (none, ly0, (p1 v), (p2 v), R0) :=
  Ct_of_V mo_X9_readLine.1 (Nat.le_of_ble_eq_true rfl) (V_X9_readLine (P := fun x => x = v)  (fun _ e => by rw [e]) (by rw [h]; exact rfl))
def F_X9_isActOf_55 (a0 : Int32) (a1 : Int32) (a2 : Int32) (a3 : Int32) (s0 : Int32) : Int32 :=
  s0
theorem V_X9_isActOf_55  {I : WI} {L : WL} {a0 : Int32} {a1 : Int32} {a2 : Int32} {a3 : Int32} {s0 : Int32} {P : Int32 → Prop} {t : Tg} (hs0 : bz s0 = s0) (hr : ∀ v, P v → t = (some (.int v), ly0, I, L, R0)) (kk : P (F_X9_isActOf_55 a0 a1 a2 a3 s0)) : V (zM x_X9_isActOf 2 0 0 t) 55 [(0, .int a0), (1, .int a1), (2, .int a2), (3, .int a3)] [.int s0] ly0 I L R0 0 0 :=
  V_iret (tat ok_X9_isActOf_0 (i := 35) (q := 56) rfl rfl) _ rfl (bz_nf hs0).1 (hr s0 (jx (P := P) kk rfl)) ⟨(Nat.le_of_ble_eq_true rfl), (Nat.le_of_ble_eq_true rfl)⟩
def F_X9_isActOf_54 (a0 : Int32) (a1 : Int32) (a2 : Int32) (a3 : Int32) : Int32 :=
  (F_X9_isActOf_55 a0 a1 a2 a3 0)
theorem V_X9_isActOf_54  {I : WI} {L : WL} {a0 : Int32} {a1 : Int32} {a2 : Int32} {a3 : Int32}  {P : Int32 → Prop} {t : Tg} (hr : ∀ v, P v → t = (some (.int v), ly0, I, L, R0)) (kk : P (F_X9_isActOf_54 a0 a1 a2 a3)) : V (zM x_X9_isActOf 2 0 0 t) 54 [(0, .int a0), (1, .int a1), (2, .int a2), (3, .int a3)] [] ly0 I L R0 0 0 :=
  V_iconst (tat ok_X9_isActOf_0 (i := 34) (q := 55) rfl rfl) ic_0 <|
    V_X9_isActOf_55 rfl hr (jx (P := P) kk rfl)
def F_X9_isActOf_44 (a0 : Int32) (a1 : Int32) (a2 : Int32) (a3 : Int32) (s0 : Int64) (s1 : Int64) (s2 : Int64) : Int32 :=
  (if (F_X9_in s2 s1 s0) = 0 then (F_X9_isActOf_54 a0 a1 a2 a3) else (F_X9_isActOf_55 a0 a1 a2 a3 1))
theorem V_X9_isActOf_44  {I : WI} {L : WL} {a0 : Int32} {a1 : Int32} {a2 : Int32} {a3 : Int32} {s0 : Int64} {s1 : Int64} {s2 : Int64} {P : Int32 → Prop} {t : Tg} (hr : ∀ v, P v → t = (some (.int v), ly0, I, L, R0)) (kk : P (F_X9_isActOf_44 a0 a1 a2 a3 s0 s1 s2)) : V (zM x_X9_isActOf 2 0 0 t) 44 [(0, .int a0), (1, .int a1), (2, .int a2), (3, .int a3)] [.long s0, .long s1, .long s2] ly0 I L R0 0 0 :=
  V_cs3 (ct_X9_in I L s2 s1 s0 ) mo_X9_in (tat ok_X9_isActOf_0 (i := 30) (q := 47) rfl rfl) ml_X9_97 ⟨(Nat.le_of_ble_eq_true rfl), (Nat.le_of_ble_eq_true rfl)⟩ ⟨(Nat.le_of_ble_eq_true rfl), (Nat.le_of_ble_eq_true rfl)⟩ (Nat.le_of_ble_eq_true rfl) <|
    V_if_eq (tat ok_X9_isActOf_0 (i := 31) (q := 50) rfl rfl) rfl (fun c3 => V_X9_isActOf_54  hr (jx (P := P) kk (if_pos c3))) (fun c3 => V_iconst (tat ok_X9_isActOf_0 (i := 32) (q := 51) rfl rfl) ic_1 <|
    V_goto (tat ok_X9_isActOf_0 (i := 33) (q := 54) rfl rfl) rfl <|
    V_X9_isActOf_55 rfl hr (jx (P := P) kk (if_neg c3)))
def F_X9_isActOf (a0 : Int32) (a1 : Int32) (a2 : Int32) (a3 : Int32) : Int32 :=
  (if (F_X9_in (Int32.toInt64 a0) 0 2) = 0 then (F_X9_isActOf_54 a0 a1 a2 a3) else (if a0 = 0 then (F_X9_isActOf_44 a0 a1 a2 a3 (Int32.toInt64 (a2 - 1)) 0 (Int32.toInt64 a1)) else (if a0 = 1 then (F_X9_isActOf_44 a0 a1 a2 a3 (Int32.toInt64 (a3 - 1)) 0 (Int32.toInt64 a1)) else (F_X9_isActOf_44 a0 a1 a2 a3 (Int32.toInt64 ((a2 + a3) - 2)) 0 (Int32.toInt64 a1)))))
theorem V_X9_isActOf  {I : WI} {L : WL} {a0 : Int32} {a1 : Int32} {a2 : Int32} {a3 : Int32}  {P : Int32 → Prop} {t : Tg} (hr : ∀ v, P v → t = (some (.int v), ly0, I, L, R0)) (kk : P (F_X9_isActOf a0 a1 a2 a3)) : V (zM x_X9_isActOf 2 0 0 t) 0 [(0, .int a0), (1, .int a1), (2, .int a2), (3, .int a3)] [] ly0 I L R0 0 0 :=
  V_iload_n (tat ok_X9_isActOf_0 (i := 0) (q := 1) rfl rfl) 0 rfl rfl <|
    V_i2l (tat ok_X9_isActOf_0 (i := 1) (q := 2) rfl rfl) <|
    V_lconst (v := 0) (tat ok_X9_isActOf_0 (i := 2) (q := 3) rfl rfl) rfl <|
    V_ldc2 (tat ok_X9_isActOf_0 (i := 3) (q := 6) rfl rfl) (gw_in kl_X9_189 rfl) <|
    V_cs3 (ct_X9_in I L (Int32.toInt64 a0) 0 2 ) mo_X9_in (tat ok_X9_isActOf_0 (i := 4) (q := 9) rfl rfl) ml_X9_97 ⟨(Nat.le_of_ble_eq_true rfl), (Nat.le_of_ble_eq_true rfl)⟩ ⟨(Nat.le_of_ble_eq_true rfl), (Nat.le_of_ble_eq_true rfl)⟩ (Nat.le_of_ble_eq_true rfl) <|
    V_if_eq (tat ok_X9_isActOf_0 (i := 5) (q := 12) rfl rfl) rfl (fun c1 => V_X9_isActOf_54  hr (jx (P := P) kk (if_pos c1))) (fun c1 => V_iload_n (tat ok_X9_isActOf_0 (i := 6) (q := 13) rfl rfl) 1 rfl rfl <|
    V_i2l (tat ok_X9_isActOf_0 (i := 7) (q := 14) rfl rfl) <|
    V_lconst (v := 0) (tat ok_X9_isActOf_0 (i := 8) (q := 15) rfl rfl) rfl <|
    V_iload_n (tat ok_X9_isActOf_0 (i := 9) (q := 16) rfl rfl) 0 rfl rfl <|
    V_if_ne (tat ok_X9_isActOf_0 (i := 10) (q := 19) rfl rfl) rfl (fun c2 => V_iload_n (tat ok_X9_isActOf_0 (i := 16) (q := 27) rfl rfl) 0 rfl rfl <|
    V_iconst (tat ok_X9_isActOf_0 (i := 17) (q := 28) rfl rfl) ic_1 <|
    V_icmp_ne (tat ok_X9_isActOf_0 (i := 18) (q := 31) rfl rfl) rfl (fun c4 => V_iload_n (tat ok_X9_isActOf_0 (i := 24) (q := 39) rfl rfl) 2 rfl rfl <|
    V_iload_n (tat ok_X9_isActOf_0 (i := 25) (q := 40) rfl rfl) 3 rfl rfl <|
    V_iadd (tat ok_X9_isActOf_0 (i := 26) (q := 41) rfl rfl) <|
    V_iconst (tat ok_X9_isActOf_0 (i := 27) (q := 42) rfl rfl) ic_2 <|
    V_isub (tat ok_X9_isActOf_0 (i := 28) (q := 43) rfl rfl) <|
    V_i2l (tat ok_X9_isActOf_0 (i := 29) (q := 44) rfl rfl) <|
    V_X9_isActOf_44  hr (jx (P := P) kk (Eq.trans (if_neg c1) (Eq.trans (if_neg c2) (if_neg c4))))) (fun c4 => V_iload_n (tat ok_X9_isActOf_0 (i := 19) (q := 32) rfl rfl) 3 rfl rfl <|
    V_iconst (tat ok_X9_isActOf_0 (i := 20) (q := 33) rfl rfl) ic_1 <|
    V_isub (tat ok_X9_isActOf_0 (i := 21) (q := 34) rfl rfl) <|
    V_i2l (tat ok_X9_isActOf_0 (i := 22) (q := 35) rfl rfl) <|
    V_goto (tat ok_X9_isActOf_0 (i := 23) (q := 38) rfl rfl) rfl <|
    V_X9_isActOf_44  hr (jx (P := P) kk (Eq.trans (if_neg c1) (Eq.trans (if_neg c2) (if_pos c4)))))) (fun c2 => V_iload_n (tat ok_X9_isActOf_0 (i := 11) (q := 20) rfl rfl) 2 rfl rfl <|
    V_iconst (tat ok_X9_isActOf_0 (i := 12) (q := 21) rfl rfl) ic_1 <|
    V_isub (tat ok_X9_isActOf_0 (i := 13) (q := 22) rfl rfl) <|
    V_i2l (tat ok_X9_isActOf_0 (i := 14) (q := 23) rfl rfl) <|
    V_goto (tat ok_X9_isActOf_0 (i := 15) (q := 26) rfl rfl) rfl <|
    V_X9_isActOf_44  hr (jx (P := P) kk (Eq.trans (if_neg c1) (if_pos c2)))))
theorem ct_X9_isActOf  (I : WI) (L : WL) (a0 : Int32) (a1 : Int32) (a2 : Int32) (a3 : Int32)  : Ct x_X9_isActOf 2 [.int a0, .int a1, .int a2, .int a3] ly0 I L R0 0 0 (some (.int (F_X9_isActOf a0 a1 a2 a3)), ly0, I, L, R0) :=
  Ct_of_V mo_X9_isActOf.1 (Nat.le_of_ble_eq_true rfl) (V_X9_isActOf (P := fun x => x = (F_X9_isActOf a0 a1 a2 a3))  (fun _ e => by rw [e]) rfl)
def F_X9_areActs_75_2 (I : WI) (a2 : Int32) (a3 : Int32) (s0 : Int32) : Option (Int32 ⊕ (Int32 × Int32)) :=
  some (.inr (s0, (a3 + 1)))
theorem V_X9_areActs_75_2  {I : WI} {L : WL} {a2 : Int32} {a3 : Int32} {s0 : Int32} {P : (Int32 ⊕ (Int32 × Int32)) → Prop} {t : Tg} (hs0 : bz s0 = s0) (he : ∀ x : Int32, P (.inl x) → V (zM x_X9_areActs 3 0 0 t) 82 [(0, .ref 33), (1, .int x), (2, .int a2)] [] ly0 I L R0 0 0) (hk : ∀ x : (Int32 × Int32), P (.inr x) → V (zM x_X9_areActs 3 0 0 t) 14 [(0, .ref 33), (1, .int (p1 x)), (2, .int a2), (3, .int (p2 x))] [] ly0 I L R0 0 0) (kk : oP P (F_X9_areActs_75_2 I a2 a3 s0)) : V (zM x_X9_areActs 3 0 0 t) 75 [(0, .ref 33), (2, .int a2), (3, .int a3)] [.int s0] ly0 I L R0 0 0 :=
  V_istore_n (lv' := [(1, .int s0), (0, .ref 33), (2, .int a2), (3, .int a3)]) (tat ok_X9_areActs_1 (i := 9) (q := 76) rfl rfl) rfl (Nat.le_of_ble_eq_true rfl) rfl <|
    V_iinc (v := (a3 + 1)) (lv' := [(3, .int (a3 + 1)), (1, .int s0), (0, .ref 33), (2, .int a2)]) (tat ok_X9_areActs_1 (i := 10) (q := 79) rfl rfl) 3 rfl (ia ic_1) (Nat.le_of_ble_eq_true rfl) rfl <|
    V_goto (tat ok_X9_areActs_1 (i := 11) (q := 82) rfl rfl) rfl <|
    V_pick [2, 1, 3, 0] rfl (hk (s0, (a3 + 1)) (jx (P := oP P) kk rfl))
def F_X9_areActs_74_2 (I : WI) (a2 : Int32) (a3 : Int32) : Option (Int32 ⊕ (Int32 × Int32)) :=
  (F_X9_areActs_75_2 I a2 a3 0)
theorem V_X9_areActs_74_2  {I : WI} {L : WL} {a2 : Int32} {a3 : Int32} {P : (Int32 ⊕ (Int32 × Int32)) → Prop} {t : Tg} (he : ∀ x : Int32, P (.inl x) → V (zM x_X9_areActs 3 0 0 t) 82 [(0, .ref 33), (1, .int x), (2, .int a2)] [] ly0 I L R0 0 0) (hk : ∀ x : (Int32 × Int32), P (.inr x) → V (zM x_X9_areActs 3 0 0 t) 14 [(0, .ref 33), (1, .int (p1 x)), (2, .int a2), (3, .int (p2 x))] [] ly0 I L R0 0 0) (kk : oP P (F_X9_areActs_74_2 I a2 a3)) : V (zM x_X9_areActs 3 0 0 t) 74 [(0, .ref 33), (2, .int a2), (3, .int a3)] [] ly0 I L R0 0 0 :=
  V_iconst (tat ok_X9_areActs_1 (i := 8) (q := 75) rfl rfl) ic_0 <|
    V_X9_areActs_75_2 rfl he hk (jx (P := oP P) kk rfl)
def F_X9_areActs_14_2 (I : WI) (a2 : Int32) (a1 : Int32) (a3 : Int32) : Option (Int32 ⊕ (Int32 × Int32)) :=
  (if (4 * a2) < 0 ∨ 48 ≤ Int32.toNatClampNeg (4 * a2) then none else (if (I 38 (Int32.toNatClampNeg (4 * a2))) < a3 then some (.inl a1) else (if a1 = 0 then (F_X9_areActs_74_2 I a2 a3) else (if ((4 * a2) + a3) < 0 ∨ 48 ≤ Int32.toNatClampNeg ((4 * a2) + a3) then none else (if ((4 * a2) + a3) < 0 ∨ 48 ≤ Int32.toNatClampNeg ((4 * a2) + a3) then none else (if (F_X9_isActOf ((I 38 (Int32.toNatClampNeg ((4 * a2) + a3))) / 20) ((I 38 (Int32.toNatClampNeg ((4 * a2) + a3))) - (I 38 (Int32.toNatClampNeg ((4 * a2) + a3))) / 20 * 20) (I 33 10) (I 33 11)) = 0 then (F_X9_areActs_74_2 I a2 a3) else (F_X9_areActs_75_2 I a2 a3 1)))))))
theorem V_X9_areActs_14_2  {I : WI} {L : WL} {a2 : Int32} {a1 : Int32} {a3 : Int32} {P : (Int32 ⊕ (Int32 × Int32)) → Prop} {t : Tg} (he : ∀ x : Int32, P (.inl x) → V (zM x_X9_areActs 3 0 0 t) 82 [(0, .ref 33), (1, .int x), (2, .int a2)] [] ly0 I L R0 0 0) (hk : ∀ x : (Int32 × Int32), P (.inr x) → V (zM x_X9_areActs 3 0 0 t) 14 [(0, .ref 33), (1, .int (p1 x)), (2, .int a2), (3, .int (p2 x))] [] ly0 I L R0 0 0) (kk : oP P (F_X9_areActs_14_2 I a2 a1 a3)) : V (zM x_X9_areActs 3 0 0 t) 14 [(0, .ref 33), (1, .int a1), (2, .int a2), (3, .int a3)] [] ly0 I L R0 0 0 :=
  V_iload_n (tat ok_X9_areActs_0 (i := 10) (q := 15) rfl rfl) 3 rfl rfl <|
    V_aload_n (tat ok_X9_areActs_0 (i := 11) (q := 16) rfl rfl) 0 rfl rfl <|
    V_getR (tat ok_X9_areActs_0 (i := 12) (q := 19) rfl rfl) fk_X9_23 rfl rfl <|
    V_iconst (tat ok_X9_areActs_0 (i := 13) (q := 20) rfl rfl) ic_4 <|
    V_iload_n (tat ok_X9_areActs_0 (i := 14) (q := 21) rfl rfl) 2 rfl rfl <|
    V_imul (tat ok_X9_areActs_0 (i := 15) (q := 22) rfl rfl) <|
    (if c1 : (4 * a2) < 0 ∨ 48 ≤ Int32.toNatClampNeg (4 * a2) then ((jx (P := oP P) kk (if_pos c1))).elim else V_iald (tat ok_X9_areActs_0 (i := 16) (q := 23) rfl rfl) rfl c1 <|
    V_icmp_gt (tat ok_X9_areActs_0 (i := 17) (q := 26) rfl rfl) rfl (fun c2 => V_pick [0, 1, 2] rfl (he a1 (jx (P := oP P) kk (Eq.trans (if_neg c1) (if_pos c2))))) (fun c2 => V_iload_n (tat ok_X9_areActs_0 (i := 18) (q := 27) rfl rfl) 1 rfl rfl <|
    V_if_eq (tat ok_X9_areActs_0 (i := 19) (q := 30) rfl rfl) rfl (fun c3 => V_pick [0, 2, 3] rfl (V_X9_areActs_74_2  he hk (jx (P := oP P) kk (Eq.trans (if_neg c1) (Eq.trans (if_neg c2) (if_pos c3)))))) (fun c3 => V_aload_n (tat ok_X9_areActs_0 (i := 20) (q := 31) rfl rfl) 0 rfl rfl <|
    V_getR (tat ok_X9_areActs_0 (i := 21) (q := 34) rfl rfl) fk_X9_23 rfl rfl <|
    V_iconst (tat ok_X9_areActs_0 (i := 22) (q := 35) rfl rfl) ic_4 <|
    V_iload_n (tat ok_X9_areActs_0 (i := 23) (q := 36) rfl rfl) 2 rfl rfl <|
    V_imul (tat ok_X9_areActs_0 (i := 24) (q := 37) rfl rfl) <|
    V_iload_n (tat ok_X9_areActs_0 (i := 25) (q := 38) rfl rfl) 3 rfl rfl <|
    V_iadd (tat ok_X9_areActs_0 (i := 26) (q := 39) rfl rfl) <|
    (if c4 : ((4 * a2) + a3) < 0 ∨ 48 ≤ Int32.toNatClampNeg ((4 * a2) + a3) then ((jx (P := oP P) kk (Eq.trans (if_neg c1) (Eq.trans (if_neg c2) (Eq.trans (if_neg c3) (if_pos c4)))))).elim else V_iald (tat ok_X9_areActs_0 (i := 27) (q := 40) rfl rfl) rfl c4 <|
    V_bipush (tat ok_X9_areActs_0 (i := 28) (q := 42) rfl rfl) bp_20 <|
    V_idiv (tat ok_X9_areActs_0 (i := 29) (q := 43) rfl rfl) (by decide) <|
    V_aload_n (tat ok_X9_areActs_0 (i := 30) (q := 44) rfl rfl) 0 rfl rfl <|
    V_getR (tat ok_X9_areActs_0 (i := 31) (q := 47) rfl rfl) fk_X9_23 rfl rfl <|
    V_iconst (tat ok_X9_areActs_0 (i := 32) (q := 48) rfl rfl) ic_4 <|
    V_iload_n (tat ok_X9_areActs_0 (i := 33) (q := 49) rfl rfl) 2 rfl rfl <|
    V_imul (tat ok_X9_areActs_0 (i := 34) (q := 50) rfl rfl) <|
    V_iload_n (tat ok_X9_areActs_0 (i := 35) (q := 51) rfl rfl) 3 rfl rfl <|
    V_iadd (tat ok_X9_areActs_0 (i := 36) (q := 52) rfl rfl) <|
    (if c5 : ((4 * a2) + a3) < 0 ∨ 48 ≤ Int32.toNatClampNeg ((4 * a2) + a3) then ((jx (P := oP P) kk (Eq.trans (if_neg c1) (Eq.trans (if_neg c2) (Eq.trans (if_neg c3) (Eq.trans (if_neg c4) (if_pos c5))))))).elim else V_iald (tat ok_X9_areActs_0 (i := 37) (q := 53) rfl rfl) rfl c5 <|
    V_bipush (tat ok_X9_areActs_0 (i := 38) (q := 55) rfl rfl) bp_20 <|
    V_irem (tat ok_X9_areActs_0 (i := 39) (q := 56) rfl rfl) (by decide) <|
    V_aload_n (tat ok_X9_areActs_1 (i := 0) (q := 57) rfl rfl) 0 rfl rfl <|
    V_getI (tat ok_X9_areActs_1 (i := 1) (q := 60) rfl rfl) fk_X9_50 rfl <|
    V_aload_n (tat ok_X9_areActs_1 (i := 2) (q := 61) rfl rfl) 0 rfl rfl <|
    V_getI (tat ok_X9_areActs_1 (i := 3) (q := 64) rfl rfl) fk_X9_54 rfl <|
    V_cs4 (ct_X9_isActOf I L ((I 38 (Int32.toNatClampNeg ((4 * a2) + a3))) / 20) ((I 38 (Int32.toNatClampNeg ((4 * a2) + a3))) - (I 38 (Int32.toNatClampNeg ((4 * a2) + a3))) / 20 * 20) (I 33 10) (I 33 11) ) mo_X9_isActOf (tat ok_X9_areActs_1 (i := 4) (q := 67) rfl rfl) ml_X9_191 ⟨(Nat.le_of_ble_eq_true rfl), (Nat.le_of_ble_eq_true rfl)⟩ ⟨(Nat.le_of_ble_eq_true rfl), (Nat.le_of_ble_eq_true rfl)⟩ (Nat.le_of_ble_eq_true rfl) <|
    V_if_eq (tat ok_X9_areActs_1 (i := 5) (q := 70) rfl rfl) rfl (fun c6 => V_pick [0, 2, 3] rfl (V_X9_areActs_74_2  he hk (jx (P := oP P) kk (Eq.trans (if_neg c1) (Eq.trans (if_neg c2) (Eq.trans (if_neg c3) (Eq.trans (if_neg c4) (Eq.trans (if_neg c5) (if_pos c6))))))))) (fun c6 => V_iconst (tat ok_X9_areActs_1 (i := 6) (q := 71) rfl rfl) ic_1 <|
    V_goto (tat ok_X9_areActs_1 (i := 7) (q := 74) rfl rfl) rfl <|
    V_pick [0, 2, 3] rfl (V_X9_areActs_75_2 rfl he hk (jx (P := oP P) kk (Eq.trans (if_neg c1) (Eq.trans (if_neg c2) (Eq.trans (if_neg c3) (Eq.trans (if_neg c4) (Eq.trans (if_neg c5) (if_neg c6))))))))))))))

