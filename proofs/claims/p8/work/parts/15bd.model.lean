def F_X9_readAct_17 (I : WI) (a1 : Int32) (s0 : Int32) : Option WI :=
  (if s0 = (-4) then (F_X9_readAct_30 I a1 s0 0) else (F_X9_readAct_30 I a1 s0 1))
theorem V_X9_readAct_17  {I : WI} {L : WL} {a1 : Int32} {s0 : Int32} {P : WI → Prop} {t : Tg} (hr : ∀ v, P v → t = (none, ly0, v, L, R0)) (kk : oP P (F_X9_readAct_17 I a1 s0)) : V (zM x_X9_readAct 4 0 0 t) 17 [(0, .ref 33), (1, .int a1)] [.int s0] ly0 I L R0 0 0 :=
  V_istore_n (lv' := [(2, .int s0), (0, .ref 33), (1, .int a1)]) (tat ok_X9_readAct_0 (i := 8) (q := 18) rfl rfl) rfl (Nat.le_of_ble_eq_true rfl) rfl <|
    V_aload_n (tat ok_X9_readAct_0 (i := 9) (q := 19) rfl rfl) 1 rfl rfl <|
    V_iload_n (tat ok_X9_readAct_0 (i := 10) (q := 20) rfl rfl) 0 rfl rfl <|
    V_bipush (tat ok_X9_readAct_0 (i := 11) (q := 22) rfl rfl) bp_m4 <|
    V_icmp_eq (tat ok_X9_readAct_0 (i := 12) (q := 25) rfl rfl) rfl (fun c3 => V_iconst (tat ok_X9_readAct_0 (i := 15) (q := 30) rfl rfl) ic_0 <|
    V_pick [1, 2, 0] rfl (V_X9_readAct_30 rfl hr (jx (P := oP P) kk (if_pos c3)))) (fun c3 => V_iconst (tat ok_X9_readAct_0 (i := 13) (q := 26) rfl rfl) ic_1 <|
    V_goto (tat ok_X9_readAct_0 (i := 14) (q := 29) rfl rfl) rfl <|
    V_pick [1, 2, 0] rfl (V_X9_readAct_30 rfl hr (jx (P := oP P) kk (if_neg c3))))
def F_X9_readAct (I : WI) (a1 : Int32) : Option WI :=
  (if (I 33 24) = 1 then (Option.bind (F_X9_actNow I) (fun v2 => (F_X9_readAct_17 I a1 v2))) else (F_X9_readAct_17 I a1 (-4)))
theorem V_X9_readAct  {I : WI} {L : WL} {a1 : Int32}  {P : WI → Prop} {t : Tg} (hr : ∀ v, P v → t = (none, ly0, v, L, R0)) (kk : oP P (F_X9_readAct I a1)) : V (zM x_X9_readAct 4 0 0 t) 0 [(0, .ref 33), (1, .int a1)] [] ly0 I L R0 0 0 :=
  V_aload_n (tat ok_X9_readAct_0 (i := 0) (q := 1) rfl rfl) 0 rfl rfl <|
    V_getI (tat ok_X9_readAct_0 (i := 1) (q := 4) rfl rfl) fk_X9_124 rfl <|
    V_iconst (tat ok_X9_readAct_0 (i := 2) (q := 5) rfl rfl) ic_1 <|
    V_icmp_ne (tat ok_X9_readAct_0 (i := 3) (q := 8) rfl rfl) rfl (fun c1 => V_bipush (tat ok_X9_readAct_0 (i := 7) (q := 17) rfl rfl) bp_m4 <|
    V_X9_readAct_17  hr (jx (P := oP P) kk (if_neg c1))) (fun c1 => V_aload_n (tat ok_X9_readAct_0 (i := 4) (q := 9) rfl rfl) 0 rfl rfl <|
    oP_case (jx (P := oP P) kk (if_pos c1)) (fun v2 e2 _ => V_cv0 (ct_X9_actNow I L   e2) mo_X9_actNow (tat ok_X9_readAct_0 (i := 5) (q := 12) rfl rfl) ml_X9_162 rfl ⟨by decide, _, rfl, rfl⟩ ⟨(Nat.le_of_ble_eq_true rfl), (Nat.le_of_ble_eq_true rfl)⟩ ⟨(Nat.le_of_ble_eq_true rfl), (Nat.le_of_ble_eq_true rfl)⟩ (Nat.le_of_ble_eq_true rfl) <|
    V_goto (tat ok_X9_readAct_0 (i := 6) (q := 15) rfl rfl) rfl <|
    V_X9_readAct_17  hr (jx (P := oP P) kk (Eq.trans (if_pos c1) (ob e2)))))
theorem ct_X9_readAct  (I : WI) (L : WL) (a1 : Int32)  {v : WI} (h : (F_X9_readAct I a1) = some v) : Ct x_X9_readAct 4 [.ref 33, .int a1] ly0 I L R0 0 0 (none, ly0, v, L, R0) :=
  Ct_of_V mo_X9_readAct.1 (Nat.le_of_ble_eq_true rfl) (V_X9_readAct (P := fun x => x = v)  (fun _ e => by rw [e]) (by rw [h]; exact rfl))
def F_X9_readDay_36_1 (I : WI)  (a1 : Int32) (s0 : Int32) : Option ((Int32 × WI) ⊕ (Int32 × Int32 × WI)) :=
  some (.inr (a1, s0, I))
theorem V_X9_readDay_36_1  {I : WI} {L : WL}  {a1 : Int32} {s0 : Int32} {P : ((Int32 × WI) ⊕ (Int32 × Int32 × WI)) → Prop} {t : Tg} (hs0 : bz s0 = s0) (he : ∀ x : (Int32 × WI), P (.inl x) → V (zM x_X9_readDay 5 0 0 t) 40 [(0, .ref 33), (1, .int (p1 x))] [] ly0 (p2 x) L R0 0 0) (hk : ∀ x : (Int32 × Int32 × WI), P (.inr x) → V (zM x_X9_readDay 5 0 0 t) 4 [(0, .ref 33), (1, .int (p1 x)), (2, .int (p1 (p2 x)))] [] ly0 (p2 (p2 x)) L R0 0 0) (kk : oP P (F_X9_readDay_36_1 I a1 s0)) : V (zM x_X9_readDay 5 0 0 t) 36 [(0, .ref 33), (1, .int a1)] [.int s0] ly0 I L R0 0 0 :=
  V_istore_n (lv' := [(2, .int s0), (0, .ref 33), (1, .int a1)]) (tat ok_X9_readDay_0 (i := 20) (q := 37) rfl rfl) rfl (Nat.le_of_ble_eq_true rfl) rfl <|
    V_goto (tat ok_X9_readDay_0 (i := 21) (q := 40) rfl rfl) rfl <|
    V_pick [1, 2, 0] rfl (hk (a1, s0, I) (jx (P := oP P) kk rfl))
def F_X9_readDay_4_1 (I : WI)  (a1 : Int32) (a2 : Int32) : Option ((Int32 × WI) ⊕ (Int32 × Int32 × WI)) :=
  (if (I 33 26) = 0 then (if a2 = 0 then some (.inl (a1, I)) else (Option.bind (F_X9_readAct I a1) (fun v3 => (if (v3 33 24) = 1 then (F_X9_readDay_36_1 v3 (a1 + 1) 1) else (F_X9_readDay_36_1 v3 (a1 + 1) 0))))) else some (.inl (a1, I)))
theorem V_X9_readDay_4_1  {I : WI} {L : WL}  {a1 : Int32} {a2 : Int32} {P : ((Int32 × WI) ⊕ (Int32 × Int32 × WI)) → Prop} {t : Tg} (he : ∀ x : (Int32 × WI), P (.inl x) → V (zM x_X9_readDay 5 0 0 t) 40 [(0, .ref 33), (1, .int (p1 x))] [] ly0 (p2 x) L R0 0 0) (hk : ∀ x : (Int32 × Int32 × WI), P (.inr x) → V (zM x_X9_readDay 5 0 0 t) 4 [(0, .ref 33), (1, .int (p1 x)), (2, .int (p1 (p2 x)))] [] ly0 (p2 (p2 x)) L R0 0 0) (kk : oP P (F_X9_readDay_4_1 I a1 a2)) : V (zM x_X9_readDay 5 0 0 t) 4 [(0, .ref 33), (1, .int a1), (2, .int a2)] [] ly0 I L R0 0 0 :=
  V_aload_n (tat ok_X9_readDay_0 (i := 4) (q := 5) rfl rfl) 0 rfl rfl <|
    V_getI (tat ok_X9_readDay_0 (i := 5) (q := 8) rfl rfl) fk_X9_101 rfl <|
    V_if_ne (tat ok_X9_readDay_0 (i := 6) (q := 11) rfl rfl) rfl (fun c1 => V_pick [0, 1] rfl (he (a1, I) (jx (P := oP P) kk (if_neg c1)))) (fun c1 => V_iload_n (tat ok_X9_readDay_0 (i := 7) (q := 12) rfl rfl) 2 rfl rfl <|
    V_if_eq (tat ok_X9_readDay_0 (i := 8) (q := 15) rfl rfl) rfl (fun c2 => V_pick [0, 1] rfl (he (a1, I) (jx (P := oP P) kk (Eq.trans (if_pos c1) (if_pos c2))))) (fun c2 => V_aload_n (tat ok_X9_readDay_0 (i := 9) (q := 16) rfl rfl) 0 rfl rfl <|
    V_iload_n (tat ok_X9_readDay_0 (i := 10) (q := 17) rfl rfl) 1 rfl rfl <|
    oP_case (jx (P := oP P) kk (Eq.trans (if_pos c1) (if_neg c2))) (fun v3 e3 _ => V_cv1v (ct_X9_readAct I L a1  e3) mo_X9_readAct (tat ok_X9_readDay_0 (i := 11) (q := 20) rfl rfl) ml_X9_170 rfl ⟨by decide, _, rfl, rfl⟩ ⟨(Nat.le_of_ble_eq_true rfl), (Nat.le_of_ble_eq_true rfl)⟩ ⟨(Nat.le_of_ble_eq_true rfl), (Nat.le_of_ble_eq_true rfl)⟩ (Nat.le_of_ble_eq_true rfl) <|
    V_iinc (v := (a1 + 1)) (lv' := [(1, .int (a1 + 1)), (0, .ref 33), (2, .int a2)]) (tat ok_X9_readDay_0 (i := 12) (q := 23) rfl rfl) 1 rfl (ia ic_1) (Nat.le_of_ble_eq_true rfl) rfl <|
    V_aload_n (tat ok_X9_readDay_0 (i := 13) (q := 24) rfl rfl) 1 rfl rfl <|
    V_getI (tat ok_X9_readDay_0 (i := 14) (q := 27) rfl rfl) fk_X9_124 rfl <|
    V_iconst (tat ok_X9_readDay_0 (i := 15) (q := 28) rfl rfl) ic_1 <|
    V_icmp_ne (tat ok_X9_readDay_0 (i := 16) (q := 31) rfl rfl) rfl (fun c4 => V_iconst (tat ok_X9_readDay_0 (i := 19) (q := 36) rfl rfl) ic_0 <|
    V_pick [1, 0] rfl (V_X9_readDay_36_1 rfl he hk (jx (P := oP P) kk (Eq.trans (if_pos c1) (Eq.trans (if_neg c2) (Eq.trans (ob e3) (if_neg c4))))))) (fun c4 => V_iconst (tat ok_X9_readDay_0 (i := 17) (q := 32) rfl rfl) ic_1 <|
    V_goto (tat ok_X9_readDay_0 (i := 18) (q := 35) rfl rfl) rfl <|
    V_pick [1, 0] rfl (V_X9_readDay_36_1 rfl he hk (jx (P := oP P) kk (Eq.trans (if_pos c1) (Eq.trans (if_neg c2) (Eq.trans (ob e3) (if_pos c4))))))))))
def F_X9_readDay_69 (I : WI) : Option WI :=
  some I
theorem V_X9_readDay_69  {I : WI} {L : WL}   {P : WI → Prop} {t : Tg} (hr : ∀ v, P v → t = (none, ly0, v, L, R0)) (kk : oP P (F_X9_readDay_69 I)) : V (zM x_X9_readDay 5 0 0 t) 69 [(0, .ref 33)] [] ly0 I L R0 0 0 :=
  V_vret (tat ok_X9_readDay_0 (i := 39) (q := 70) rfl rfl) rfl (hr I (jx (P := oP P) kk rfl)) ⟨(Nat.le_of_ble_eq_true rfl), (Nat.le_of_ble_eq_true rfl)⟩
def F_X9_readDay_40 (I : WI)  (a1 : Int32) : Option WI :=
  (if (I 33 26) = 0 then (if (4 * (I 33 18)) < 0 ∨ 48 ≤ Int32.toNatClampNeg (4 * (I 33 18)) then none else (F_X9_readDay_69 (u2 (u2 I 38 (Int32.toNatClampNeg (4 * (I 33 18))) a1) 33 18 (((u2 I 38 (Int32.toNatClampNeg (4 * (I 33 18))) a1) 33 18) + 1)))) else (F_X9_readDay_69 I))
theorem V_X9_readDay_40  {I : WI} {L : WL}  {a1 : Int32} {P : WI → Prop} {t : Tg} (hr : ∀ v, P v → t = (none, ly0, v, L, R0)) (kk : oP P (F_X9_readDay_40 I a1)) : V (zM x_X9_readDay 5 0 0 t) 40 [(0, .ref 33), (1, .int a1)] [] ly0 I L R0 0 0 :=
  V_aload_n (tat ok_X9_readDay_0 (i := 22) (q := 41) rfl rfl) 0 rfl rfl <|
    V_getI (tat ok_X9_readDay_0 (i := 23) (q := 44) rfl rfl) fk_X9_101 rfl <|
    V_if_ne (tat ok_X9_readDay_0 (i := 24) (q := 47) rfl rfl) rfl (fun c5 => V_pick [0] rfl (V_X9_readDay_69  hr (jx (P := oP P) kk (if_neg c5)))) (fun c5 => V_aload_n (tat ok_X9_readDay_0 (i := 25) (q := 48) rfl rfl) 0 rfl rfl <|
    V_getR (tat ok_X9_readDay_0 (i := 26) (q := 51) rfl rfl) fk_X9_23 rfl rfl <|
    V_iconst (tat ok_X9_readDay_0 (i := 27) (q := 52) rfl rfl) ic_4 <|
    V_aload_n (tat ok_X9_readDay_0 (i := 28) (q := 53) rfl rfl) 0 rfl rfl <|
    V_getI (tat ok_X9_readDay_0 (i := 29) (q := 56) rfl rfl) fk_X9_71 rfl <|
    V_imul (tat ok_X9_readDay_0 (i := 30) (q := 57) rfl rfl) <|
    V_iload_n (tat ok_X9_readDay_0 (i := 31) (q := 58) rfl rfl) 1 rfl rfl <|
    (if c6 : (4 * (I 33 18)) < 0 ∨ 48 ≤ Int32.toNatClampNeg (4 * (I 33 18)) then ((jx (P := oP P) kk (Eq.trans (if_pos c5) (if_pos c6)))).elim else V_iast (tat ok_X9_readDay_0 (i := 32) (q := 59) rfl rfl) rfl c6 <|
    V_aload_n (tat ok_X9_readDay_0 (i := 33) (q := 60) rfl rfl) 0 rfl rfl <|
    V_dup (tat ok_X9_readDay_0 (i := 34) (q := 61) rfl rfl) rfl <|
    V_getI (tat ok_X9_readDay_0 (i := 35) (q := 64) rfl rfl) fk_X9_71 rfl <|
    V_iconst (tat ok_X9_readDay_0 (i := 36) (q := 65) rfl rfl) ic_1 <|
    V_iadd (tat ok_X9_readDay_0 (i := 37) (q := 66) rfl rfl) <|
    V_putI (tat ok_X9_readDay_0 (i := 38) (q := 69) rfl rfl) fk_X9_71 rfl rfl <|
    V_pick [0] rfl (V_X9_readDay_69  hr (jx (P := oP P) kk (Eq.trans (if_pos c5) (if_neg c6))))))
def F_X9_readDay_4 (I : WI)  (a1 : Int32) (a2 : Int32) : Option WI :=
  (lpp (fun x => (F_X9_readDay_4_1 (p2 (p2 x)) (p1 x) (p1 (p2 x)))) 4294967296 (a1, a2, I)).bind (fun q => (F_X9_readDay_40 (p2 q) (p1 q)))
theorem V_X9_readDay_4  {I : WI} {L : WL}  {a1 : Int32} {a2 : Int32} {P : WI → Prop} {t : Tg} (hb1 : bz a1 = a1) (hb2 : bz a2 = a2) (hr : ∀ v, P v → t = (none, ly0, v, L, R0)) (kk : oP P (F_X9_readDay_4 I a1 a2)) : V (zM x_X9_readDay 5 0 0 t) 4 [(0, .ref 33), (1, .int a1), (2, .int a2)] [] ly0 I L R0 0 0 :=
  V_lpp (fun x => (F_X9_readDay_4_1 (p2 (p2 x)) (p1 x) (p1 (p2 x)))) (fun x => V (zM x_X9_readDay 5 0 0 t) 4 [(0, .ref 33), (1, .int (p1 x)), (2, .int (p1 (p2 x)))] [] ly0 (p2 (p2 x)) L R0 0 0) (fun x => oP P ((F_X9_readDay_40 (p2 x) (p1 x)))) (s := (a1, a2, I)) (fun x e0 => V_X9_readDay_4_1 (P := Sum.elim (fun x => oP P ((F_X9_readDay_40 (p2 x) (p1 x)))) (fun x => V (zM x_X9_readDay 5 0 0 t) 4 [(0, .ref 33), (1, .int (p1 x)), (2, .int (p1 (p2 x)))] [] ly0 (p2 (p2 x)) L R0 0 0))  (fun x e => V_X9_readDay_40  hr e) (fun _ e => e) e0) (oP_bind (f := fun q => _) kk)
def F_X9_readDay (I : WI) : Option WI :=
  (F_X9_readDay_4 I 0 1)
theorem V_X9_readDay  {I : WI} {L : WL}   {P : WI → Prop} {t : Tg} (hr : ∀ v, P v → t = (none, ly0, v, L, R0)) (kk : oP P (F_X9_readDay I)) : V (zM x_X9_readDay 5 0 0 t) 0 [(0, .ref 33)] [] ly0 I L R0 0 0 :=
  V_iconst (tat ok_X9_readDay_0 (i := 0) (q := 1) rfl rfl) ic_0 <|
    V_istore_n (lv' := [(1, .int 0), (0, .ref 33)]) (tat ok_X9_readDay_0 (i := 1) (q := 2) rfl rfl) rfl (Nat.le_of_ble_eq_true rfl) rfl <|
    V_iconst (tat ok_X9_readDay_0 (i := 2) (q := 3) rfl rfl) ic_1 <|
    V_istore_n (lv' := [(2, .int 1), (1, .int 0), (0, .ref 33)]) (tat ok_X9_readDay_0 (i := 3) (q := 4) rfl rfl) rfl (Nat.le_of_ble_eq_true rfl) rfl <|
    V_pick [2, 1, 0] rfl (V_X9_readDay_4 rfl rfl hr (jx (P := oP P) kk rfl))
theorem ct_X9_readDay  (I : WI) (L : WL)  {v : WI} (h : (F_X9_readDay I) = some v) : Ct x_X9_readDay 5 [.ref 33] ly0 I L R0 0 0 (none, ly0, v, L, R0) :=
  Ct_of_V mo_X9_readDay.1 (Nat.le_of_ble_eq_true rfl) (V_X9_readDay (P := fun x => x = v)  (fun _ e => by rw [e]) (by rw [h]; exact rfl))
def F_X9_readLine_216 (I : WI) (L : WL) : Option (WI × WL) :=
  (Option.bind (F_X9_next I) (fun v16 => some (v16, L)))
theorem V_X9_readLine_216  {I : WI} {L : WL}   {P : (WI × WL) → Prop} {t : Tg} (hr : ∀ v, P v → t = (none, ly0, (p1 v), (p2 v), R0)) (kk : oP P (F_X9_readLine_216 I L)) : V (zM x_X9_readLine 6 0 0 t) 216 [(0, .ref 33)] [] ly0 I L R0 0 0 :=
  V_aload_n (tat ok_X9_readLine_2 (i := 30) (q := 217) rfl rfl) 0 rfl rfl <|
    oP_case (jx (P := oP P) kk rfl) (fun v16 e16 _ => V_cv0v (ct_X9_next I L   e16) mo_X9_next (tat ok_X9_readLine_2 (i := 31) (q := 220) rfl rfl) ml_X9_159 rfl ⟨by decide, _, rfl, rfl⟩ ⟨(Nat.le_of_ble_eq_true rfl), (Nat.le_of_ble_eq_true rfl)⟩ ⟨(Nat.le_of_ble_eq_true rfl), (Nat.le_of_ble_eq_true rfl)⟩ (Nat.le_of_ble_eq_true rfl) <|
    V_vret (tat ok_X9_readLine_2 (i := 32) (q := 221) rfl rfl) rfl (hr (v16, L) (jx (P := oP P) kk (ob e16))) ⟨(Nat.le_of_ble_eq_true rfl), (Nat.le_of_ble_eq_true rfl)⟩)
def F_X9_readLine_212 (I : WI) (L : WL)  (s0 : Int32) : Option (WI × WL) :=
  (F_X9_readLine_216 (F_X9_needs I s0 2) L)
theorem V_X9_readLine_212  {I : WI} {L : WL}  {s0 : Int32} {P : (WI × WL) → Prop} {t : Tg} (hs0 : bz s0 = s0) (hr : ∀ v, P v → t = (none, ly0, (p1 v), (p2 v), R0)) (kk : oP P (F_X9_readLine_212 I L s0)) : V (zM x_X9_readLine 6 0 0 t) 212 [(0, .ref 33)] [.int s0, .ref 33] ly0 I L R0 0 0 :=
  V_iconst (tat ok_X9_readLine_2 (i := 28) (q := 213) rfl rfl) ic_2 <|
    V_cv2v (ct_X9_needs I L s0 2 ) mo_X9_needs (tat ok_X9_readLine_2 (i := 29) (q := 216) rfl rfl) ml_X9_138 rfl ⟨by decide, _, rfl, rfl⟩ ⟨(Nat.le_of_ble_eq_true rfl), (Nat.le_of_ble_eq_true rfl)⟩ ⟨(Nat.le_of_ble_eq_true rfl), (Nat.le_of_ble_eq_true rfl)⟩ (Nat.le_of_ble_eq_true rfl) <|
    V_X9_readLine_216  hr (jx (P := oP P) kk rfl)
def F_X9_readLine_191 (I : WI) (L : WL) : Option (WI × WL) :=
  (if (I 33 26) = 0 then (if (I 33 24) = 3 then (F_X9_readLine_212 I L 1) else (F_X9_readLine_212 I L 0)) else (F_X9_readLine_216 I L))
theorem V_X9_readLine_191  {I : WI} {L : WL}   {P : (WI × WL) → Prop} {t : Tg} (hr : ∀ v, P v → t = (none, ly0, (p1 v), (p2 v), R0)) (kk : oP P (F_X9_readLine_191 I L)) : V (zM x_X9_readLine 6 0 0 t) 191 [(0, .ref 33)] [] ly0 I L R0 0 0 :=
  V_aload_n (tat ok_X9_readLine_2 (i := 17) (q := 192) rfl rfl) 0 rfl rfl <|
    V_getI (tat ok_X9_readLine_2 (i := 18) (q := 195) rfl rfl) fk_X9_101 rfl <|
    V_if_ne (tat ok_X9_readLine_2 (i := 19) (q := 198) rfl rfl) rfl (fun c14 => V_X9_readLine_216  hr (jx (P := oP P) kk (if_neg c14))) (fun c14 => V_aload_n (tat ok_X9_readLine_2 (i := 20) (q := 199) rfl rfl) 0 rfl rfl <|
    V_aload_n (tat ok_X9_readLine_2 (i := 21) (q := 200) rfl rfl) 0 rfl rfl <|
    V_getI (tat ok_X9_readLine_2 (i := 22) (q := 203) rfl rfl) fk_X9_124 rfl <|
    V_iconst (tat ok_X9_readLine_2 (i := 23) (q := 204) rfl rfl) ic_3 <|
    V_icmp_ne (tat ok_X9_readLine_2 (i := 24) (q := 207) rfl rfl) rfl (fun c15 => V_iconst (tat ok_X9_readLine_2 (i := 27) (q := 212) rfl rfl) ic_0 <|
    V_X9_readLine_212 rfl hr (jx (P := oP P) kk (Eq.trans (if_pos c14) (if_neg c15)))) (fun c15 => V_iconst (tat ok_X9_readLine_2 (i := 25) (q := 208) rfl rfl) ic_1 <|
    V_goto (tat ok_X9_readLine_2 (i := 26) (q := 211) rfl rfl) rfl <|
    V_X9_readLine_212 rfl hr (jx (P := oP P) kk (Eq.trans (if_pos c14) (if_pos c15)))))
