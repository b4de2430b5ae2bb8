theorem ct_X9_read  (I : WI) (L : WL) (a1 : Int32) (a2 : Int32) (a3 : Int32) (a4 : Int32)  {v : (Int32 × WI × WL)} (h : (F_X9_read I L a1 a2 a3 a4) = some v) : Ct x_X9_read 4 [.ref 33, .int a1, .int a2, .int a3, .int a4] ly0 I L R0 0 0 (some (.int (p1 v)), ly0, (p1 (p2 v)), (p2 (p2 v)), R0) :=
  Ct_of_V mo_X9_read.1 (Nat.le_of_ble_eq_true rfl) (V_X9_read (P := fun x => x = v)  (fun _ e => by rw [e]) (by rw [h]; exact rfl))
def F_X9_torn (I : WI) : Int32 :=
  (I 33 46)
theorem V_X9_torn  {I : WI} {L : WL}   {P : Int32 → Prop} {t : Tg} (hr : ∀ v, P v → t = (some (.int v), ly0, I, L, R0)) (kk : P (F_X9_torn I)) : V (zM x_X9_torn 1 0 0 t) 0 [(0, .ref 33)] [] ly0 I L R0 0 0 :=
  V_aload_n (tat ok_X9_torn_0 (i := 0) (q := 1) rfl rfl) 0 rfl rfl <|
    V_getI (tat ok_X9_torn_0 (i := 1) (q := 4) rfl rfl) fk_X9_338 rfl <|
    V_iret (tat ok_X9_torn_0 (i := 2) (q := 5) rfl rfl) _ rfl (nar_int _) (hr (I 33 46) (jx (P := P) kk rfl)) ⟨(Nat.le_of_ble_eq_true rfl), (Nat.le_of_ble_eq_true rfl)⟩
theorem ct_X9_torn  (I : WI) (L : WL)  : Ct x_X9_torn 1 [.ref 33] ly0 I L R0 0 0 (some (.int (F_X9_torn I)), ly0, I, L, R0) :=
  Ct_of_V mo_X9_torn.1 (Nat.le_of_ble_eq_true rfl) (V_X9_torn (P := fun x => x = (F_X9_torn I))  (fun _ e => by rw [e]) rfl)
def F_X9_count_82 (I : WI) (L : WL) (a1 : Int32) (s0 : Int32) : Option Int32 :=
  some s0
theorem V_X9_count_82  {I : WI} {L : WL} {a1 : Int32} {s0 : Int32} {P : Int32 → Prop} {t : Tg} (hr : ∀ v, P v → t = (some (.int v), ly0, I, L, R0)) (kk : oP P (F_X9_count_82 I L a1 s0)) : V (zM x_X9_count 2 0 0 t) 82 [(0, .ref 33), (1, .int a1)] [.int s0] ly0 I L R0 0 0 :=
  V_iret (tat ok_X9_count_0 (i := 23) (q := 83) rfl rfl) _ rfl (nar_int _) (hr s0 (jx (P := oP P) kk rfl)) ⟨(Nat.le_of_ble_eq_true rfl), (Nat.le_of_ble_eq_true rfl)⟩
def F_X9_count_128 (I : WI) (L : WL) (a1 : Int32) (s0 : Int32) : Option Int32 :=
  some s0
theorem V_X9_count_128  {I : WI} {L : WL} {a1 : Int32} {s0 : Int32} {P : Int32 → Prop} {t : Tg} (hr : ∀ v, P v → t = (some (.int v), ly0, I, L, R0)) (kk : oP P (F_X9_count_128 I L a1 s0)) : V (zM x_X9_count 2 0 0 t) 128 [(0, .ref 33), (1, .int a1)] [.int s0] ly0 I L R0 0 0 :=
  V_iret (tat ok_X9_count_1 (i := 9) (q := 129) rfl rfl) _ rfl (nar_int _) (hr s0 (jx (P := oP P) kk rfl)) ⟨(Nat.le_of_ble_eq_true rfl), (Nat.le_of_ble_eq_true rfl)⟩
def F_X9_count (I : WI) (L : WL) (a1 : Int32) : Option Int32 :=
  (if a1 = 0 then some (F_X9_many (L 33 2)) else (if a1 = 1 then some ((I 33 0) * (I 33 1)) else (if a1 = 2 then (if (bz (I 33 4)) = 0 then (F_X9_count_82 I L a1 (-4)) else (F_X9_count_82 I L a1 (F_X9_many ((L 33 2) ^^^ (L 33 3))))) else (if a1 = 3 then (Option.bind (F_X9_isKept I 0) (fun v8 => (Option.bind (F_X9_isKept I 1) (fun v9 => some ((F_X9_flag v8) + (F_X9_flag v9)))))) else (if a1 = 4 then some (I 33 21) else (if a1 = 5 then (if (I 42 (Int32.toNatClampNeg 0)) = (-4) then (F_X9_count_128 I L a1 (-4)) else (F_X9_count_128 I L a1 (I 43 (Int32.toNatClampNeg 0)))) else some (-1)))))))
theorem V_X9_count  {I : WI} {L : WL} {a1 : Int32}  {P : Int32 → Prop} {t : Tg} (hr : ∀ v, P v → t = (some (.int v), ly0, I, L, R0)) (kk : oP P (F_X9_count I L a1)) : V (zM x_X9_count 2 0 0 t) 0 [(0, .ref 33), (1, .int a1)] [] ly0 I L R0 0 0 :=
  V_iload_n (tat ok_X9_count_0 (i := 0) (q := 1) rfl rfl) 1 rfl rfl <|
    (if c1 : a1 = 0 then V_tswJ (tgt := 40) (off := 39) 0 (tat ok_X9_count_0 (i := 1) (q := 40) rfl rfl) (swj c1) ⟨rfl, by decide⟩ rfl (V_aload_n (tat ok_X9_count_0 (i := 2) (q := 41) rfl rfl) 0 rfl rfl <|
    V_getL (tat ok_X9_count_0 (i := 3) (q := 44) rfl rfl) fk_X9_80 rfl <|
    V_cs1 (ct_X9_many I L (L 33 2) ) mo_X9_many (tat ok_X9_count_0 (i := 4) (q := 47) rfl rfl) ml_X9_220 ⟨(Nat.le_of_ble_eq_true rfl), (Nat.le_of_ble_eq_true rfl)⟩ ⟨(Nat.le_of_ble_eq_true rfl), (Nat.le_of_ble_eq_true rfl)⟩ (Nat.le_of_ble_eq_true rfl) <|
    V_iret (tat ok_X9_count_0 (i := 5) (q := 48) rfl rfl) _ rfl (nar_int _) (hr (F_X9_many (L 33 2)) (jx (P := oP P) kk (if_pos c1))) ⟨(Nat.le_of_ble_eq_true rfl), (Nat.le_of_ble_eq_true rfl)⟩) else (if c2 : a1 = 1 then V_tswJ (tgt := 48) (off := 47) 1 (tat ok_X9_count_0 (i := 1) (q := 40) rfl rfl) (swj c2) ⟨rfl, by decide⟩ rfl (V_aload_n (tat ok_X9_count_0 (i := 6) (q := 49) rfl rfl) 0 rfl rfl <|
    V_getI (tat ok_X9_count_0 (i := 7) (q := 52) rfl rfl) fk_X9_74 rfl <|
    V_aload_n (tat ok_X9_count_0 (i := 8) (q := 53) rfl rfl) 0 rfl rfl <|
    V_getI (tat ok_X9_count_0 (i := 9) (q := 56) rfl rfl) fk_X9_77 rfl <|
    V_imul (tat ok_X9_count_0 (i := 10) (q := 57) rfl rfl) <|
    V_iret (tat ok_X9_count_0 (i := 11) (q := 58) rfl rfl) _ rfl (nar_int _) (hr ((I 33 0) * (I 33 1)) (jx (P := oP P) kk (Eq.trans (if_neg c1) (if_pos c2)))) ⟨(Nat.le_of_ble_eq_true rfl), (Nat.le_of_ble_eq_true rfl)⟩) else (if c3 : a1 = 2 then V_tswJ (tgt := 58) (off := 57) 2 (tat ok_X9_count_0 (i := 1) (q := 40) rfl rfl) (swj c3) ⟨rfl, by decide⟩ rfl (V_aload_n (tat ok_X9_count_0 (i := 12) (q := 59) rfl rfl) 0 rfl rfl <|
    V_getZ (tat ok_X9_count_0 (i := 13) (q := 62) rfl rfl) fk_X9_86 rfl <|
    V_if_eq (tat ok_X9_count_0 (i := 14) (q := 65) rfl rfl) rfl (fun c7 => V_bipush (tat ok_X9_count_0 (i := 22) (q := 82) rfl rfl) bp_m4 <|
    V_X9_count_82  hr (jx (P := oP P) kk (Eq.trans (if_neg c1) (Eq.trans (if_neg c2) (Eq.trans (if_pos c3) (if_pos c7)))))) (fun c7 => V_aload_n (tat ok_X9_count_0 (i := 15) (q := 66) rfl rfl) 0 rfl rfl <|
    V_getL (tat ok_X9_count_0 (i := 16) (q := 69) rfl rfl) fk_X9_80 rfl <|
    V_aload_n (tat ok_X9_count_0 (i := 17) (q := 70) rfl rfl) 0 rfl rfl <|
    V_getL (tat ok_X9_count_0 (i := 18) (q := 73) rfl rfl) fk_X9_83 rfl <|
    V_lxor (tat ok_X9_count_0 (i := 19) (q := 74) rfl rfl) <|
    V_cs1 (ct_X9_many I L ((L 33 2) ^^^ (L 33 3)) ) mo_X9_many (tat ok_X9_count_0 (i := 20) (q := 77) rfl rfl) ml_X9_220 ⟨(Nat.le_of_ble_eq_true rfl), (Nat.le_of_ble_eq_true rfl)⟩ ⟨(Nat.le_of_ble_eq_true rfl), (Nat.le_of_ble_eq_true rfl)⟩ (Nat.le_of_ble_eq_true rfl) <|
    V_goto (tat ok_X9_count_0 (i := 21) (q := 80) rfl rfl) rfl <|
    V_X9_count_82  hr (jx (P := oP P) kk (Eq.trans (if_neg c1) (Eq.trans (if_neg c2) (Eq.trans (if_pos c3) (if_neg c7))))))) else (if c4 : a1 = 3 then V_tswJ (tgt := 83) (off := 82) 3 (tat ok_X9_count_0 (i := 1) (q := 40) rfl rfl) (swj c4) ⟨rfl, by decide⟩ rfl (V_aload_n (tat ok_X9_count_0 (i := 24) (q := 84) rfl rfl) 0 rfl rfl <|
    V_iconst (tat ok_X9_count_0 (i := 25) (q := 85) rfl rfl) ic_0 <|
    oP_case (jx (P := oP P) kk (Eq.trans (if_neg c1) (Eq.trans (if_neg c2) (Eq.trans (if_neg c3) (if_pos c4))))) (fun v8 e8 _ => V_cv1 (ct_X9_isKept I L 0  e8) mo_X9_isKept (tat ok_X9_count_0 (i := 26) (q := 88) rfl rfl) ml_X9_239 rfl ⟨by decide, _, rfl, rfl⟩ ⟨(Nat.le_of_ble_eq_true rfl), (Nat.le_of_ble_eq_true rfl)⟩ ⟨(Nat.le_of_ble_eq_true rfl), (Nat.le_of_ble_eq_true rfl)⟩ (Nat.le_of_ble_eq_true rfl) <|
    V_cs1 (ct_X9_flag I L v8 ) mo_X9_flag (tat ok_X9_count_0 (i := 27) (q := 91) rfl rfl) ml_X9_200 ⟨(Nat.le_of_ble_eq_true rfl), (Nat.le_of_ble_eq_true rfl)⟩ ⟨(Nat.le_of_ble_eq_true rfl), (Nat.le_of_ble_eq_true rfl)⟩ (Nat.le_of_ble_eq_true rfl) <|
    V_aload_n (tat ok_X9_count_0 (i := 28) (q := 92) rfl rfl) 0 rfl rfl <|
    V_iconst (tat ok_X9_count_0 (i := 29) (q := 93) rfl rfl) ic_1 <|
    oP_case (jx (P := oP P) kk (Eq.trans (if_neg c1) (Eq.trans (if_neg c2) (Eq.trans (if_neg c3) (Eq.trans (if_pos c4) (ob e8)))))) (fun v9 e9 _ => V_cv1 (ct_X9_isKept I L 1  e9) mo_X9_isKept (tat ok_X9_count_0 (i := 30) (q := 96) rfl rfl) ml_X9_239 rfl ⟨by decide, _, rfl, rfl⟩ ⟨(Nat.le_of_ble_eq_true rfl), (Nat.le_of_ble_eq_true rfl)⟩ ⟨(Nat.le_of_ble_eq_true rfl), (Nat.le_of_ble_eq_true rfl)⟩ (Nat.le_of_ble_eq_true rfl) <|
    V_cs1 (ct_X9_flag I L v9 ) mo_X9_flag (tat ok_X9_count_0 (i := 31) (q := 99) rfl rfl) ml_X9_200 ⟨(Nat.le_of_ble_eq_true rfl), (Nat.le_of_ble_eq_true rfl)⟩ ⟨(Nat.le_of_ble_eq_true rfl), (Nat.le_of_ble_eq_true rfl)⟩ (Nat.le_of_ble_eq_true rfl) <|
    V_iadd (tat ok_X9_count_0 (i := 32) (q := 100) rfl rfl) <|
    V_iret (tat ok_X9_count_0 (i := 33) (q := 101) rfl rfl) _ rfl (nar_int _) (hr ((F_X9_flag v8) + (F_X9_flag v9)) (jx (P := oP P) kk (Eq.trans (if_neg c1) (Eq.trans (if_neg c2) (Eq.trans (if_neg c3) (Eq.trans (if_pos c4) (Eq.trans (ob e8) (ob e9)))))))) ⟨(Nat.le_of_ble_eq_true rfl), (Nat.le_of_ble_eq_true rfl)⟩))) else (if c5 : a1 = 4 then V_tswJ (tgt := 101) (off := 100) 4 (tat ok_X9_count_0 (i := 1) (q := 40) rfl rfl) (swj c5) ⟨rfl, by decide⟩ rfl (V_aload_n (tat ok_X9_count_0 (i := 34) (q := 102) rfl rfl) 0 rfl rfl <|
    V_getI (tat ok_X9_count_0 (i := 35) (q := 105) rfl rfl) fk_X9_92 rfl <|
    V_iret (tat ok_X9_count_0 (i := 36) (q := 106) rfl rfl) _ rfl (nar_int _) (hr (I 33 21) (jx (P := oP P) kk (Eq.trans (if_neg c1) (Eq.trans (if_neg c2) (Eq.trans (if_neg c3) (Eq.trans (if_neg c4) (if_pos c5))))))) ⟨(Nat.le_of_ble_eq_true rfl), (Nat.le_of_ble_eq_true rfl)⟩) else (if c6 : a1 = 5 then V_tswJ (tgt := 106) (off := 105) 5 (tat ok_X9_count_0 (i := 1) (q := 40) rfl rfl) (swj c6) ⟨rfl, by decide⟩ rfl (V_aload_n (tat ok_X9_count_0 (i := 37) (q := 107) rfl rfl) 0 rfl rfl <|
    V_getR (tat ok_X9_count_0 (i := 38) (q := 110) rfl rfl) fk_X9_35 rfl rfl <|
    V_iconst (tat ok_X9_count_0 (i := 39) (q := 111) rfl rfl) ic_0 <|
    V_iald (tat ok_X9_count_1 (i := 0) (q := 112) rfl rfl) rfl (vp_in_nI (n := 0) (by decide) (by decide)) <|
    V_bipush (tat ok_X9_count_1 (i := 1) (q := 114) rfl rfl) bp_m4 <|
    V_icmp_ne (tat ok_X9_count_1 (i := 2) (q := 117) rfl rfl) rfl (fun c10 => V_aload_n (tat ok_X9_count_1 (i := 5) (q := 123) rfl rfl) 0 rfl rfl <|
    V_getR (tat ok_X9_count_1 (i := 6) (q := 126) rfl rfl) fk_X9_38 rfl rfl <|
    V_iconst (tat ok_X9_count_1 (i := 7) (q := 127) rfl rfl) ic_0 <|
    V_iald (tat ok_X9_count_1 (i := 8) (q := 128) rfl rfl) rfl (vp_in_nI (n := 0) (by decide) (by decide)) <|
    V_X9_count_128  hr (jx (P := oP P) kk (Eq.trans (if_neg c1) (Eq.trans (if_neg c2) (Eq.trans (if_neg c3) (Eq.trans (if_neg c4) (Eq.trans (if_neg c5) (Eq.trans (if_pos c6) (if_neg c10))))))))) (fun c10 => V_bipush (tat ok_X9_count_1 (i := 3) (q := 119) rfl rfl) bp_m4 <|
    V_goto (tat ok_X9_count_1 (i := 4) (q := 122) rfl rfl) rfl <|
    V_X9_count_128  hr (jx (P := oP P) kk (Eq.trans (if_neg c1) (Eq.trans (if_neg c2) (Eq.trans (if_neg c3) (Eq.trans (if_neg c4) (Eq.trans (if_neg c5) (Eq.trans (if_pos c6) (if_pos c10)))))))))) else V_tswD (tgt := 129) (tat ok_X9_count_0 (i := 1) (q := 40) rfl rfl) (sw6 c1 c2 c3 c4 c5 c6) rfl (V_iconst (tat ok_X9_count_1 (i := 10) (q := 130) rfl rfl) ic_m1 <|
    V_iret (tat ok_X9_count_1 (i := 11) (q := 131) rfl rfl) _ rfl (nar_int _) (hr (-1) (jx (P := oP P) kk (Eq.trans (if_neg c1) (Eq.trans (if_neg c2) (Eq.trans (if_neg c3) (Eq.trans (if_neg c4) (Eq.trans (if_neg c5) (if_neg c6)))))))) ⟨(Nat.le_of_ble_eq_true rfl), (Nat.le_of_ble_eq_true rfl)⟩)))))))
theorem ct_X9_count  (I : WI) (L : WL) (a1 : Int32)  {v : Int32} (h : (F_X9_count I L a1) = some v) : Ct x_X9_count 2 [.ref 33, .int a1] ly0 I L R0 0 0 (some (.int v), ly0, I, L, R0) :=
  Ct_of_V mo_X9_count.1 (Nat.le_of_ble_eq_true rfl) (V_X9_count (P := fun x => x = v)  (fun _ e => by rw [e]) (by rw [h]; exact rfl))


