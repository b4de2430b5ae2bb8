def F_X9_next_217 (I : WI) : Option WI :=
  (if 2 < ((I 33 22) - (I 33 23)) then (F_X9_next_236 I 0) else (F_X9_next_236 I 1))
theorem V_X9_next_217  {I : WI} {L : WL}   {P : WI → Prop} {t : Tg} (hr : ∀ v, P v → t = (none, ly0, v, L, R0)) (kk : oP P (F_X9_next_217 I)) : V (zM x_X9_next 2 0 0 t) 217 [(0, .ref 33)] [] ly0 I L R0 0 0 :=
  V_aload_n (tat ok_X9_next_2 (i := 28) (q := 218) rfl rfl) 0 rfl rfl <|
    V_aload_n (tat ok_X9_next_2 (i := 29) (q := 219) rfl rfl) 0 rfl rfl <|
    V_getI (tat ok_X9_next_2 (i := 30) (q := 222) rfl rfl) fk_X9_110 rfl <|
    V_aload_n (tat ok_X9_next_2 (i := 31) (q := 223) rfl rfl) 0 rfl rfl <|
    V_getI (tat ok_X9_next_2 (i := 32) (q := 226) rfl rfl) fk_X9_104 rfl <|
    V_isub (tat ok_X9_next_2 (i := 33) (q := 227) rfl rfl) <|
    V_iconst (tat ok_X9_next_2 (i := 34) (q := 228) rfl rfl) ic_2 <|
    V_icmp_gt (tat ok_X9_next_2 (i := 35) (q := 231) rfl rfl) rfl (fun c13 => V_iconst (tat ok_X9_next_2 (i := 38) (q := 236) rfl rfl) ic_0 <|
    V_X9_next_236 rfl hr (jx (P := oP P) kk (if_pos c13))) (fun c13 => V_iconst (tat ok_X9_next_2 (i := 36) (q := 232) rfl rfl) ic_1 <|
    V_goto (tat ok_X9_next_2 (i := 37) (q := 235) rfl rfl) rfl <|
    V_X9_next_236 rfl hr (jx (P := oP P) kk (if_neg c13)))
def F_X9_next_140 (I : WI) : Option WI :=
  (lpp (fun x => (F_X9_next_140_2 x)) 4294967296 I).bind (fun q => (F_X9_next_217 q))
theorem V_X9_next_140  {I : WI} {L : WL}   {P : WI → Prop} {t : Tg} (hr : ∀ v, P v → t = (none, ly0, v, L, R0)) (kk : oP P (F_X9_next_140 I)) : V (zM x_X9_next 2 0 0 t) 140 [(0, .ref 33)] [] ly0 I L R0 0 0 :=
  V_lpp (fun x => (F_X9_next_140_2 x)) (fun x => V (zM x_X9_next 2 0 0 t) 140 [(0, .ref 33)] [] ly0 x L R0 0 0) (fun x => oP P ((F_X9_next_217 x))) (s := I) (fun x e0 => V_X9_next_140_2 (P := Sum.elim (fun x => oP P ((F_X9_next_217 x))) (fun x => V (zM x_X9_next 2 0 0 t) 140 [(0, .ref 33)] [] ly0 x L R0 0 0))  (fun x e => V_X9_next_217  hr e) (fun _ e => e) e0) (oP_bind (f := fun q => _) kk)
def F_X9_next_82_3 (I : WI) : Option (WI ⊕ WI) :=
  (Option.bind (F_X9_look I (I 33 22)) (fun v14 => (if (F_X9_in (Int32.toInt64 v14) 97 122) = 0 then some (.inl I) else some (.inr (u2 I 33 22 ((I 33 22) + 1))))))
theorem V_X9_next_82_3  {I : WI} {L : WL}   {P : (WI ⊕ WI) → Prop} {t : Tg} (he : ∀ x : WI, P (.inl x) → V (zM x_X9_next 2 0 0 t) 274 [(0, .ref 33)] [] ly0 x L R0 0 0) (hk : ∀ x : WI, P (.inr x) → V (zM x_X9_next 2 0 0 t) 82 [(0, .ref 33)] [] ly0 x L R0 0 0) (kk : oP P (F_X9_next_82_3 I)) : V (zM x_X9_next 2 0 0 t) 82 [(0, .ref 33)] [] ly0 I L R0 0 0 :=
  V_aload_n (tat ok_X9_next_1 (i := 1) (q := 83) rfl rfl) 0 rfl rfl <|
    V_aload_n (tat ok_X9_next_1 (i := 2) (q := 84) rfl rfl) 0 rfl rfl <|
    V_getI (tat ok_X9_next_1 (i := 3) (q := 87) rfl rfl) fk_X9_110 rfl <|
    oP_case (jx (P := oP P) kk rfl) (fun v14 e14 _ => V_cv1 (ct_X9_look I L (I 33 22)  e14) mo_X9_look (tat ok_X9_next_1 (i := 4) (q := 90) rfl rfl) ml_X9_113 rfl ⟨by decide, _, rfl, rfl⟩ ⟨(Nat.le_of_ble_eq_true rfl), (Nat.le_of_ble_eq_true rfl)⟩ ⟨(Nat.le_of_ble_eq_true rfl), (Nat.le_of_ble_eq_true rfl)⟩ (Nat.le_of_ble_eq_true rfl) <|
    V_i2l (tat ok_X9_next_1 (i := 5) (q := 91) rfl rfl) <|
    V_ldc2 (tat ok_X9_next_1 (i := 6) (q := 94) rfl rfl) (gw_in kl_X9_127 rfl) <|
    V_ldc2 (tat ok_X9_next_1 (i := 7) (q := 97) rfl rfl) (gw_in kl_X9_129 rfl) <|
    V_cs3 (ct_X9_in I L (Int32.toInt64 v14) 97 122 ) mo_X9_in (tat ok_X9_next_1 (i := 8) (q := 100) rfl rfl) ml_X9_97 ⟨(Nat.le_of_ble_eq_true rfl), (Nat.le_of_ble_eq_true rfl)⟩ ⟨(Nat.le_of_ble_eq_true rfl), (Nat.le_of_ble_eq_true rfl)⟩ (Nat.le_of_ble_eq_true rfl) <|
    V_if_eq (tat ok_X9_next_1 (i := 9) (q := 103) rfl rfl) rfl (fun c15 => he I (jx (P := oP P) kk (Eq.trans (ob e14) (if_pos c15)))) (fun c15 => V_aload_n (tat ok_X9_next_1 (i := 10) (q := 104) rfl rfl) 0 rfl rfl <|
    V_dup (tat ok_X9_next_1 (i := 11) (q := 105) rfl rfl) rfl <|
    V_getI (tat ok_X9_next_1 (i := 12) (q := 108) rfl rfl) fk_X9_110 rfl <|
    V_iconst (tat ok_X9_next_1 (i := 13) (q := 109) rfl rfl) ic_1 <|
    V_iadd (tat ok_X9_next_1 (i := 14) (q := 110) rfl rfl) <|
    V_putI (tat ok_X9_next_1 (i := 15) (q := 113) rfl rfl) fk_X9_110 rfl rfl <|
    V_goto (tat ok_X9_next_1 (i := 16) (q := 116) rfl rfl) rfl <|
    hk (u2 I 33 22 ((I 33 22) + 1)) (jx (P := oP P) kk (Eq.trans (ob e14) (if_neg c15)))))
def F_X9_next_82 (I : WI) : Option WI :=
  (lpp (fun x => (F_X9_next_82_3 x)) 4294967296 I).bind (fun q => (F_X9_next_274 q))
theorem V_X9_next_82  {I : WI} {L : WL}   {P : WI → Prop} {t : Tg} (hr : ∀ v, P v → t = (none, ly0, v, L, R0)) (kk : oP P (F_X9_next_82 I)) : V (zM x_X9_next 2 0 0 t) 82 [(0, .ref 33)] [] ly0 I L R0 0 0 :=
  V_lpp (fun x => (F_X9_next_82_3 x)) (fun x => V (zM x_X9_next 2 0 0 t) 82 [(0, .ref 33)] [] ly0 x L R0 0 0) (fun x => oP P ((F_X9_next_274 x))) (s := I) (fun x e0 => V_X9_next_82_3 (P := Sum.elim (fun x => oP P ((F_X9_next_274 x))) (fun x => V (zM x_X9_next 2 0 0 t) 82 [(0, .ref 33)] [] ly0 x L R0 0 0))  (fun x e => V_X9_next_274  hr e) (fun _ e => e) e0) (oP_bind (f := fun q => _) kk)
def F_X9_next_34 (I : WI) : Option WI :=
  (Option.bind (F_X9_look (u2 I 33 23 (I 33 22)) ((u2 I 33 23 (I 33 22)) 33 22)) (fun v4 => (if 0 ≤ v4 then (if (F_X9_in (Int32.toInt64 v4) 97 122) = 0 then (if (F_X9_in (Int32.toInt64 v4) 48 57) = 0 then (if v4 = 59 then (F_X9_next_260 (u2 (u2 I 33 23 (I 33 22)) 33 24 3) 1) else (F_X9_next_260 (u2 (u2 I 33 23 (I 33 22)) 33 24 3) 0)) else (F_X9_next_140 (u2 (u2 (u2 I 33 23 (I 33 22)) 33 24 2) 33 25 0))) else (F_X9_next_82 (u2 (u2 I 33 23 (I 33 22)) 33 24 1))) else (F_X9_next_274 (u2 (u2 I 33 23 (I 33 22)) 33 24 0)))))
theorem V_X9_next_34  {I : WI} {L : WL}   {P : WI → Prop} {t : Tg} (hr : ∀ v, P v → t = (none, ly0, v, L, R0)) (kk : oP P (F_X9_next_34 I)) : V (zM x_X9_next 2 0 0 t) 34 [(0, .ref 33)] [] ly0 I L R0 0 0 :=
  V_aload_n (tat ok_X9_next_0 (i := 17) (q := 35) rfl rfl) 0 rfl rfl <|
    V_aload_n (tat ok_X9_next_0 (i := 18) (q := 36) rfl rfl) 0 rfl rfl <|
    V_getI (tat ok_X9_next_0 (i := 19) (q := 39) rfl rfl) fk_X9_110 rfl <|
    V_putI (tat ok_X9_next_0 (i := 20) (q := 42) rfl rfl) fk_X9_104 rfl rfl <|
    V_aload_n (tat ok_X9_next_0 (i := 21) (q := 43) rfl rfl) 0 rfl rfl <|
    V_aload_n (tat ok_X9_next_0 (i := 22) (q := 44) rfl rfl) 0 rfl rfl <|
    V_getI (tat ok_X9_next_0 (i := 23) (q := 47) rfl rfl) fk_X9_110 rfl <|
    oP_case (jx (P := oP P) kk rfl) (fun v4 e4 _ => V_cv1 (ct_X9_look (u2 I 33 23 (I 33 22)) L ((u2 I 33 23 (I 33 22)) 33 22)  e4) mo_X9_look (tat ok_X9_next_0 (i := 24) (q := 50) rfl rfl) ml_X9_113 rfl ⟨by decide, _, rfl, rfl⟩ ⟨(Nat.le_of_ble_eq_true rfl), (Nat.le_of_ble_eq_true rfl)⟩ ⟨(Nat.le_of_ble_eq_true rfl), (Nat.le_of_ble_eq_true rfl)⟩ (Nat.le_of_ble_eq_true rfl) <|
    V_istore_n (lv' := [(1, .int v4), (0, .ref 33)]) (tat ok_X9_next_0 (i := 25) (q := 51) rfl rfl) rfl (Nat.le_of_ble_eq_true rfl) rfl <|
    V_iload_n (tat ok_X9_next_0 (i := 26) (q := 52) rfl rfl) 0 rfl rfl <|
    V_if_ge (tat ok_X9_next_0 (i := 27) (q := 55) rfl rfl) rfl (fun c5 => V_iload_n (tat ok_X9_next_0 (i := 32) (q := 64) rfl rfl) 0 rfl rfl <|
    V_i2l (tat ok_X9_next_0 (i := 33) (q := 65) rfl rfl) <|
    V_ldc2 (tat ok_X9_next_0 (i := 34) (q := 68) rfl rfl) (gw_in kl_X9_127 rfl) <|
    V_ldc2 (tat ok_X9_next_0 (i := 35) (q := 71) rfl rfl) (gw_in kl_X9_129 rfl) <|
    V_cs3 (ct_X9_in (u2 I 33 23 (I 33 22)) L (Int32.toInt64 v4) 97 122 ) mo_X9_in (tat ok_X9_next_0 (i := 36) (q := 74) rfl rfl) ml_X9_97 ⟨(Nat.le_of_ble_eq_true rfl), (Nat.le_of_ble_eq_true rfl)⟩ ⟨(Nat.le_of_ble_eq_true rfl), (Nat.le_of_ble_eq_true rfl)⟩ (Nat.le_of_ble_eq_true rfl) <|
    V_if_eq (tat ok_X9_next_0 (i := 37) (q := 77) rfl rfl) rfl (fun c6 => V_iload_n (tat ok_X9_next_1 (i := 17) (q := 117) rfl rfl) 0 rfl rfl <|
    V_i2l (tat ok_X9_next_1 (i := 18) (q := 118) rfl rfl) <|
    V_ldc2 (tat ok_X9_next_1 (i := 19) (q := 121) rfl rfl) (gw_in kl_X9_131 rfl) <|
    V_ldc2 (tat ok_X9_next_1 (i := 20) (q := 124) rfl rfl) (gw_in kl_X9_133 rfl) <|
    V_cs3 (ct_X9_in (u2 I 33 23 (I 33 22)) L (Int32.toInt64 v4) 48 57 ) mo_X9_in (tat ok_X9_next_1 (i := 21) (q := 127) rfl rfl) ml_X9_97 ⟨(Nat.le_of_ble_eq_true rfl), (Nat.le_of_ble_eq_true rfl)⟩ ⟨(Nat.le_of_ble_eq_true rfl), (Nat.le_of_ble_eq_true rfl)⟩ (Nat.le_of_ble_eq_true rfl) <|
    V_if_eq (tat ok_X9_next_1 (i := 22) (q := 130) rfl rfl) rfl (fun c7 => V_aload_n (tat ok_X9_next_3 (i := 2) (q := 244) rfl rfl) 1 rfl rfl <|
    V_iconst (tat ok_X9_next_3 (i := 3) (q := 245) rfl rfl) ic_3 <|
    V_putI (tat ok_X9_next_3 (i := 4) (q := 248) rfl rfl) fk_X9_124 rfl rfl <|
    V_aload_n (tat ok_X9_next_3 (i := 5) (q := 249) rfl rfl) 1 rfl rfl <|
    V_iload_n (tat ok_X9_next_3 (i := 6) (q := 250) rfl rfl) 0 rfl rfl <|
    V_bipush (tat ok_X9_next_3 (i := 7) (q := 252) rfl rfl) bp_59 <|
    V_icmp_ne (tat ok_X9_next_3 (i := 8) (q := 255) rfl rfl) rfl (fun c8 => V_iconst (tat ok_X9_next_3 (i := 11) (q := 260) rfl rfl) ic_0 <|
    V_pick [1] rfl (V_X9_next_260 rfl hr (jx (P := oP P) kk (Eq.trans (ob e4) (Eq.trans (if_pos c5) (Eq.trans (if_pos c6) (Eq.trans (if_pos c7) (if_neg c8)))))))) (fun c8 => V_iconst (tat ok_X9_next_3 (i := 9) (q := 256) rfl rfl) ic_1 <|
    V_goto (tat ok_X9_next_3 (i := 10) (q := 259) rfl rfl) rfl <|
    V_pick [1] rfl (V_X9_next_260 rfl hr (jx (P := oP P) kk (Eq.trans (ob e4) (Eq.trans (if_pos c5) (Eq.trans (if_pos c6) (Eq.trans (if_pos c7) (if_pos c8))))))))) (fun c7 => V_aload_n (tat ok_X9_next_1 (i := 23) (q := 131) rfl rfl) 1 rfl rfl <|
    V_iconst (tat ok_X9_next_1 (i := 24) (q := 132) rfl rfl) ic_2 <|
    V_putI (tat ok_X9_next_1 (i := 25) (q := 135) rfl rfl) fk_X9_124 rfl rfl <|
    V_aload_n (tat ok_X9_next_1 (i := 26) (q := 136) rfl rfl) 1 rfl rfl <|
    V_iconst (tat ok_X9_next_1 (i := 27) (q := 137) rfl rfl) ic_0 <|
    V_putI (tat ok_X9_next_1 (i := 28) (q := 140) rfl rfl) fk_X9_135 rfl rfl <|
    V_pick [1] rfl (V_X9_next_140  hr (jx (P := oP P) kk (Eq.trans (ob e4) (Eq.trans (if_pos c5) (Eq.trans (if_pos c6) (if_neg c7)))))))) (fun c6 => V_aload_n (tat ok_X9_next_0 (i := 38) (q := 78) rfl rfl) 1 rfl rfl <|
    V_iconst (tat ok_X9_next_0 (i := 39) (q := 79) rfl rfl) ic_1 <|
    V_putI (tat ok_X9_next_1 (i := 0) (q := 82) rfl rfl) fk_X9_124 rfl rfl <|
    V_pick [1] rfl (V_X9_next_82  hr (jx (P := oP P) kk (Eq.trans (ob e4) (Eq.trans (if_pos c5) (if_neg c6))))))) (fun c5 => V_aload_n (tat ok_X9_next_0 (i := 28) (q := 56) rfl rfl) 1 rfl rfl <|
    V_iconst (tat ok_X9_next_0 (i := 29) (q := 57) rfl rfl) ic_0 <|
    V_putI (tat ok_X9_next_0 (i := 30) (q := 60) rfl rfl) fk_X9_124 rfl rfl <|
    V_goto (tat ok_X9_next_0 (i := 31) (q := 63) rfl rfl) rfl <|
    V_pick [1] rfl (V_X9_next_274  hr (jx (P := oP P) kk (Eq.trans (ob e4) (if_neg c5))))))
def F_X9_next_8 (I : WI) : Option WI :=
  (lpp (fun x => (F_X9_next_8_1 x)) 4294967296 I).bind (fun q => (F_X9_next_34 q))
theorem V_X9_next_8  {I : WI} {L : WL}   {P : WI → Prop} {t : Tg} (hr : ∀ v, P v → t = (none, ly0, v, L, R0)) (kk : oP P (F_X9_next_8 I)) : V (zM x_X9_next 2 0 0 t) 8 [(0, .ref 33)] [] ly0 I L R0 0 0 :=
  V_lpp (fun x => (F_X9_next_8_1 x)) (fun x => V (zM x_X9_next 2 0 0 t) 8 [(0, .ref 33)] [] ly0 x L R0 0 0) (fun x => oP P ((F_X9_next_34 x))) (s := I) (fun x e0 => V_X9_next_8_1 (P := Sum.elim (fun x => oP P ((F_X9_next_34 x))) (fun x => V (zM x_X9_next 2 0 0 t) 8 [(0, .ref 33)] [] ly0 x L R0 0 0))  (fun x e => V_X9_next_34  hr e) (fun _ e => e) e0) (oP_bind (f := fun q => _) kk)
def F_X9_next (I : WI) : Option WI :=
  (if (I 33 26) ≤ 0 then (F_X9_next_8 I) else some I)
theorem V_X9_next  {I : WI} {L : WL}   {P : WI → Prop} {t : Tg} (hr : ∀ v, P v → t = (none, ly0, v, L, R0)) (kk : oP P (F_X9_next I)) : V (zM x_X9_next 2 0 0 t) 0 [(0, .ref 33)] [] ly0 I L R0 0 0 :=
  V_aload_n (tat ok_X9_next_0 (i := 0) (q := 1) rfl rfl) 0 rfl rfl <|
    V_getI (tat ok_X9_next_0 (i := 1) (q := 4) rfl rfl) fk_X9_101 rfl <|
    V_if_le (tat ok_X9_next_0 (i := 2) (q := 7) rfl rfl) rfl (fun c1 => V_X9_next_8  hr (jx (P := oP P) kk (if_pos c1))) (fun c1 => V_vret (tat ok_X9_next_0 (i := 3) (q := 8) rfl rfl) rfl (hr I (jx (P := oP P) kk (if_neg c1))) ⟨(Nat.le_of_ble_eq_true rfl), (Nat.le_of_ble_eq_true rfl)⟩)
theorem ct_X9_next  (I : WI) (L : WL)  {v : WI} (h : (F_X9_next I) = some v) : Ct x_X9_next 2 [.ref 33] ly0 I L R0 0 0 (none, ly0, v, L, R0) :=
  Ct_of_V mo_X9_next.1 (Nat.le_of_ble_eq_true rfl) (V_X9_next (P := fun x => x = v)  (fun _ e => by rw [e]) (by rw [h]; exact rfl))
def F_X9_readRows_148_2 (I : WI) (L : WL) (a2 : Int32) (a3 : Int32) (s0 : Int64) (s1 : Int64) : Option WL :=
  some (u2 L 33 30 (s1 ||| s0))
theorem V_X9_readRows_148_2  {I : WI} {L : WL} {a2 : Int32} {a3 : Int32} {s0 : Int64} {s1 : Int64} {P : WL → Prop} {t : Tg} (hk : ∀ x : WL, P x → V (zM x_X9_readRows 3 0 0 t) 111 [(0, .ref 33), (2, .int a2), (3, .int (a3 + 1))] [] ly0 I x R0 0 0) (kk : oP P (F_X9_readRows_148_2 I L a2 a3 s0 s1)) : V (zM x_X9_readRows 3 0 0 t) 148 [(0, .ref 33), (2, .int a2), (3, .int a3)] [.long s0, .long s1, .ref 33] ly0 I L R0 0 0 :=
  V_lor (tat ok_X9_readRows_2 (i := 1) (q := 149) rfl rfl) <|
    V_putL (tat ok_X9_readRows_2 (i := 2) (q := 152) rfl rfl) fk_X9_148 rfl rfl <|
    V_iinc (v := (a3 + 1)) (lv' := [(3, .int (a3 + 1)), (0, .ref 33), (2, .int a2)]) (tat ok_X9_readRows_2 (i := 3) (q := 155) rfl rfl) 2 rfl (ia ic_1) (Nat.le_of_ble_eq_true rfl) rfl <|
    V_goto (tat ok_X9_readRows_2 (i := 4) (q := 158) rfl rfl) rfl <|
    V_pick [1, 2, 0] rfl (hk (u2 L 33 30 (s1 ||| s0)) (jx (P := oP P) kk rfl))
def F_X9_readRows_116_2 (I : WI) (L : WL) (a2 : Int32) (a3 : Int32) : Option WL :=
  (Option.bind (F_X9_look I ((I 33 23) + a3)) (fun v7 => (if v7 = 100 then (F_X9_readRows_148_2 I L a2 a3 (F_X9_bitOf (I 33 28) a3) (L 33 30)) else (F_X9_readRows_148_2 I L a2 a3 0 (L 33 30)))))
theorem V_X9_readRows_116_2  {I : WI} {L : WL} {a2 : Int32} {a3 : Int32}  {P : WL → Prop} {t : Tg} (hk : ∀ x : WL, P x → V (zM x_X9_readRows 3 0 0 t) 111 [(0, .ref 33), (2, .int a2), (3, .int (a3 + 1))] [] ly0 I x R0 0 0) (kk : oP P (F_X9_readRows_116_2 I L a2 a3)) : V (zM x_X9_readRows 3 0 0 t) 116 [(0, .ref 33), (2, .int a2), (3, .int a3)] [] ly0 I L R0 0 0 :=
  V_aload_n (tat ok_X9_readRows_1 (i := 24) (q := 117) rfl rfl) 0 rfl rfl <|
    V_dup (tat ok_X9_readRows_1 (i := 25) (q := 118) rfl rfl) rfl <|
    V_getL (tat ok_X9_readRows_1 (i := 26) (q := 121) rfl rfl) fk_X9_148 rfl <|
    V_aload_n (tat ok_X9_readRows_1 (i := 27) (q := 122) rfl rfl) 0 rfl rfl <|
    V_aload_n (tat ok_X9_readRows_1 (i := 28) (q := 123) rfl rfl) 0 rfl rfl <|
    V_getI (tat ok_X9_readRows_1 (i := 29) (q := 126) rfl rfl) fk_X9_104 rfl <|
    V_iload_n (tat ok_X9_readRows_1 (i := 30) (q := 127) rfl rfl) 2 rfl rfl <|
    V_iadd (tat ok_X9_readRows_1 (i := 31) (q := 128) rfl rfl) <|
    oP_case (jx (P := oP P) kk rfl) (fun v7 e7 _ => V_cv1 (ct_X9_look I L ((I 33 23) + a3)  e7) mo_X9_look (tat ok_X9_readRows_1 (i := 32) (q := 131) rfl rfl) ml_X9_113 rfl ⟨by decide, _, rfl, rfl⟩ ⟨(Nat.le_of_ble_eq_true rfl), (Nat.le_of_ble_eq_true rfl)⟩ ⟨(Nat.le_of_ble_eq_true rfl), (Nat.le_of_ble_eq_true rfl)⟩ (Nat.le_of_ble_eq_true rfl) <|
    V_bipush (tat ok_X9_readRows_1 (i := 33) (q := 133) rfl rfl) bp_100 <|
    V_icmp_ne (tat ok_X9_readRows_1 (i := 34) (q := 136) rfl rfl) rfl (fun c8 => V_lconst (v := 0) (tat ok_X9_readRows_2 (i := 0) (q := 148) rfl rfl) rfl <|
    V_X9_readRows_148_2  hk (jx (P := oP P) kk (Eq.trans (ob e7) (if_neg c8)))) (fun c8 => V_aload_n (tat ok_X9_readRows_1 (i := 35) (q := 137) rfl rfl) 0 rfl rfl <|
    V_getI (tat ok_X9_readRows_1 (i := 36) (q := 140) rfl rfl) fk_X9_142 rfl <|
    V_iload_n (tat ok_X9_readRows_1 (i := 37) (q := 141) rfl rfl) 2 rfl rfl <|
    V_cs2 (ct_X9_bitOf I L (I 33 28) a3 ) mo_X9_bitOf (tat ok_X9_readRows_1 (i := 38) (q := 144) rfl rfl) ml_X9_155 ⟨(Nat.le_of_ble_eq_true rfl), (Nat.le_of_ble_eq_true rfl)⟩ ⟨(Nat.le_of_ble_eq_true rfl), (Nat.le_of_ble_eq_true rfl)⟩ (Nat.le_of_ble_eq_true rfl) <|
    V_goto (tat ok_X9_readRows_1 (i := 39) (q := 147) rfl rfl) rfl <|
    V_X9_readRows_148_2  hk (jx (P := oP P) kk (Eq.trans (ob e7) (if_pos c8)))))
def F_X9_readRows_185_1 (I : WI) (L : WL)  (s0 : Int32) : Option ((WI × WL) ⊕ (Int32 × WI × WL)) :=
  some (.inr (s0, I, L))
theorem V_X9_readRows_185_1  {I : WI} {L : WL}  {s0 : Int32} {P : ((WI × WL) ⊕ (Int32 × WI × WL)) → Prop} {t : Tg} (hs0 : bz s0 = s0) (he : ∀ x : (WI × WL), P (.inl x) → V (zM x_X9_readRows 3 0 0 t) 189 [(0, .ref 33)] [] ly0 (p1 x) (p2 x) R0 0 0) (hk : ∀ x : (Int32 × WI × WL), P (.inr x) → V (zM x_X9_readRows 3 0 0 t) 17 [(0, .ref 33), (1, .int (p1 x))] [] ly0 (p1 (p2 x)) (p2 (p2 x)) R0 0 0) (kk : oP P (F_X9_readRows_185_1 I L s0)) : V (zM x_X9_readRows 3 0 0 t) 185 [(0, .ref 33)] [.int s0] ly0 I L R0 0 0 :=
  V_istore_n (lv' := [(1, .int s0), (0, .ref 33)]) (tat ok_X9_readRows_2 (i := 20) (q := 186) rfl rfl) rfl (Nat.le_of_ble_eq_true rfl) rfl <|
    V_goto (tat ok_X9_readRows_2 (i := 21) (q := 189) rfl rfl) rfl <|
    V_pick [1, 0] rfl (hk (s0, I, L) (jx (P := oP P) kk rfl))
def F_X9_readRows_168_1 (I : WI) (L : WL) : Option ((WI × WL) ⊕ (Int32 × WI × WL)) :=
  (Option.bind (F_X9_next I) (fun v9 => (if (v9 33 24) = 1 then (F_X9_readRows_185_1 v9 L 1) else (F_X9_readRows_185_1 v9 L 0))))
theorem V_X9_readRows_168_1  {I : WI} {L : WL}   {P : ((WI × WL) ⊕ (Int32 × WI × WL)) → Prop} {t : Tg} (he : ∀ x : (WI × WL), P (.inl x) → V (zM x_X9_readRows 3 0 0 t) 189 [(0, .ref 33)] [] ly0 (p1 x) (p2 x) R0 0 0) (hk : ∀ x : (Int32 × WI × WL), P (.inr x) → V (zM x_X9_readRows 3 0 0 t) 17 [(0, .ref 33), (1, .int (p1 x))] [] ly0 (p1 (p2 x)) (p2 (p2 x)) R0 0 0) (kk : oP P (F_X9_readRows_168_1 I L)) : V (zM x_X9_readRows 3 0 0 t) 168 [(0, .ref 33)] [] ly0 I L R0 0 0 :=
  V_aload_n (tat ok_X9_readRows_2 (i := 11) (q := 169) rfl rfl) 0 rfl rfl <|
    oP_case (jx (P := oP P) kk rfl) (fun v9 e9 _ => V_cv0v (ct_X9_next I L   e9) mo_X9_next (tat ok_X9_readRows_2 (i := 12) (q := 172) rfl rfl) ml_X9_159 rfl ⟨by decide, _, rfl, rfl⟩ ⟨(Nat.le_of_ble_eq_true rfl), (Nat.le_of_ble_eq_true rfl)⟩ ⟨(Nat.le_of_ble_eq_true rfl), (Nat.le_of_ble_eq_true rfl)⟩ (Nat.le_of_ble_eq_true rfl) <|
    V_aload_n (tat ok_X9_readRows_2 (i := 13) (q := 173) rfl rfl) 0 rfl rfl <|
    V_getI (tat ok_X9_readRows_2 (i := 14) (q := 176) rfl rfl) fk_X9_124 rfl <|
    V_iconst (tat ok_X9_readRows_2 (i := 15) (q := 177) rfl rfl) ic_1 <|
    V_icmp_ne (tat ok_X9_readRows_2 (i := 16) (q := 180) rfl rfl) rfl (fun c10 => V_iconst (tat ok_X9_readRows_2 (i := 19) (q := 185) rfl rfl) ic_0 <|
    V_X9_readRows_185_1 rfl he hk (jx (P := oP P) kk (Eq.trans (ob e9) (if_neg c10)))) (fun c10 => V_iconst (tat ok_X9_readRows_2 (i := 17) (q := 181) rfl rfl) ic_1 <|
    V_goto (tat ok_X9_readRows_2 (i := 18) (q := 184) rfl rfl) rfl <|
    V_X9_readRows_185_1 rfl he hk (jx (P := oP P) kk (Eq.trans (ob e9) (if_pos c10)))))
def F_X9_readRows_158_1 (I : WI) (L : WL) : Option ((WI × WL) ⊕ (Int32 × WI × WL)) :=
  (F_X9_readRows_168_1 (u2 I 33 28 ((I 33 28) + 1)) L)
theorem V_X9_readRows_158_1  {I : WI} {L : WL}   {P : ((WI × WL) ⊕ (Int32 × WI × WL)) → Prop} {t : Tg} (he : ∀ x : (WI × WL), P (.inl x) → V (zM x_X9_readRows 3 0 0 t) 189 [(0, .ref 33)] [] ly0 (p1 x) (p2 x) R0 0 0) (hk : ∀ x : (Int32 × WI × WL), P (.inr x) → V (zM x_X9_readRows 3 0 0 t) 17 [(0, .ref 33), (1, .int (p1 x))] [] ly0 (p1 (p2 x)) (p2 (p2 x)) R0 0 0) (kk : oP P (F_X9_readRows_158_1 I L)) : V (zM x_X9_readRows 3 0 0 t) 158 [(0, .ref 33)] [] ly0 I L R0 0 0 :=
  V_aload_n (tat ok_X9_readRows_2 (i := 5) (q := 159) rfl rfl) 0 rfl rfl <|
    V_dup (tat ok_X9_readRows_2 (i := 6) (q := 160) rfl rfl) rfl <|
    V_getI (tat ok_X9_readRows_2 (i := 7) (q := 163) rfl rfl) fk_X9_142 rfl <|
    V_iconst (tat ok_X9_readRows_2 (i := 8) (q := 164) rfl rfl) ic_1 <|
    V_iadd (tat ok_X9_readRows_2 (i := 9) (q := 165) rfl rfl) <|
    V_putI (tat ok_X9_readRows_2 (i := 10) (q := 168) rfl rfl) fk_X9_142 rfl rfl <|
    V_X9_readRows_168_1  he hk (jx (P := oP P) kk rfl)
def F_X9_readRows_111_1 (I : WI) (L : WL)  (a2 : Int32) (a3 : Int32) : Option ((WI × WL) ⊕ (Int32 × WI × WL)) :=
  (frp0 (fun i x => (F_X9_readRows_116_2 I x a2 i)) a2 (fu a3 a2) a3 L).bind (fun q => (F_X9_readRows_158_1 I (p2 q)))
theorem V_X9_readRows_111_1  {I : WI} {L : WL}  {a2 : Int32} {a3 : Int32} {P : ((WI × WL) ⊕ (Int32 × WI × WL)) → Prop} {t : Tg} (hb3 : bz a3 = a3) (he : ∀ x : (WI × WL), P (.inl x) → V (zM x_X9_readRows 3 0 0 t) 189 [(0, .ref 33)] [] ly0 (p1 x) (p2 x) R0 0 0) (hk : ∀ x : (Int32 × WI × WL), P (.inr x) → V (zM x_X9_readRows 3 0 0 t) 17 [(0, .ref 33), (1, .int (p1 x))] [] ly0 (p1 (p2 x)) (p2 (p2 x)) R0 0 0) (kk : oP P (F_X9_readRows_111_1 I L a2 a3)) : V (zM x_X9_readRows 3 0 0 t) 111 [(0, .ref 33), (2, .int a2), (3, .int a3)] [] ly0 I L R0 0 0 :=
  V_frp0 (fun i x => (F_X9_readRows_116_2 I x a2 i)) a2 (fun i x => V (zM x_X9_readRows 3 0 0 t) 111 [(0, .ref 33), (2, .int a2), (3, .int i)] [] ly0 I x R0 0 0) (fun i x => oP P ((F_X9_readRows_158_1 I x))) (c := a3) (s := L) (fun i x kx kb => V_iload_n (tat ok_X9_readRows_1 (i := 21) (q := 112) rfl rfl) 2 rfl rfl <|
    V_iload_n (tat ok_X9_readRows_1 (i := 22) (q := 113) rfl rfl) 1 rfl rfl <|
    V_icmp_ge (tat ok_X9_readRows_1 (i := 23) (q := 116) rfl rfl) rfl (fun c0 => V_pick [0] rfl (V_X9_readRows_158_1  he hk (kx c0))) (fun c0 => V_X9_readRows_116_2 (P := (fun x => (fun i x => V (zM x_X9_readRows 3 0 0 t) 111 [(0, .ref 33), (2, .int a2), (3, .int i)] [] ly0 I x R0 0 0) (i + 1) x))  (fun _ e => e) (kb c0))) (oP_bind (f := fun q => _) kk)
def F_X9_readRows_93_1 (I : WI) (L : WL)  (a2 : Int32) (s0 : Int32) : Option ((WI × WL) ⊕ (Int32 × WI × WL)) :=
  (if ((F_X9_needs I s0 3) 33 26) = 0 then (F_X9_readRows_111_1 (u2 (F_X9_needs I s0 3) 33 29 a2) L a2 0) else (F_X9_readRows_168_1 (F_X9_needs I s0 3) L))
theorem V_X9_readRows_93_1  {I : WI} {L : WL}  {a2 : Int32} {s0 : Int32} {P : ((WI × WL) ⊕ (Int32 × WI × WL)) → Prop} {t : Tg} (hs0 : bz s0 = s0) (he : ∀ x : (WI × WL), P (.inl x) → V (zM x_X9_readRows 3 0 0 t) 189 [(0, .ref 33)] [] ly0 (p1 x) (p2 x) R0 0 0) (hk : ∀ x : (Int32 × WI × WL), P (.inr x) → V (zM x_X9_readRows 3 0 0 t) 17 [(0, .ref 33), (1, .int (p1 x))] [] ly0 (p1 (p2 x)) (p2 (p2 x)) R0 0 0) (kk : oP P (F_X9_readRows_93_1 I L a2 s0)) : V (zM x_X9_readRows 3 0 0 t) 93 [(0, .ref 33), (2, .int a2)] [.int s0, .ref 33] ly0 I L R0 0 0 :=
  V_iconst (tat ok_X9_readRows_1 (i := 11) (q := 94) rfl rfl) ic_3 <|
    V_cv2v (ct_X9_needs I L s0 3 ) mo_X9_needs (tat ok_X9_readRows_1 (i := 12) (q := 97) rfl rfl) ml_X9_138 rfl ⟨by decide, _, rfl, rfl⟩ ⟨(Nat.le_of_ble_eq_true rfl), (Nat.le_of_ble_eq_true rfl)⟩ ⟨(Nat.le_of_ble_eq_true rfl), (Nat.le_of_ble_eq_true rfl)⟩ (Nat.le_of_ble_eq_true rfl) <|
    V_aload_n (tat ok_X9_readRows_1 (i := 13) (q := 98) rfl rfl) 0 rfl rfl <|
    V_getI (tat ok_X9_readRows_1 (i := 14) (q := 101) rfl rfl) fk_X9_101 rfl <|
    V_if_ne (tat ok_X9_readRows_1 (i := 15) (q := 104) rfl rfl) rfl (fun c6 => V_pick [0] rfl (V_X9_readRows_168_1  he hk (jx (P := oP P) kk (if_neg c6)))) (fun c6 => V_aload_n (tat ok_X9_readRows_1 (i := 16) (q := 105) rfl rfl) 0 rfl rfl <|
    V_iload_n (tat ok_X9_readRows_1 (i := 17) (q := 106) rfl rfl) 1 rfl rfl <|
    V_putI (tat ok_X9_readRows_1 (i := 18) (q := 109) rfl rfl) fk_X9_145 rfl rfl <|
    V_iconst (tat ok_X9_readRows_1 (i := 19) (q := 110) rfl rfl) ic_0 <|
    V_istore_n (lv' := [(3, .int 0), (0, .ref 33), (2, .int a2)]) (tat ok_X9_readRows_1 (i := 20) (q := 111) rfl rfl) rfl (Nat.le_of_ble_eq_true rfl) rfl <|
    V_pick [1, 2, 0] rfl (V_X9_readRows_111_1 rfl he hk (jx (P := oP P) kk (if_pos c6))))
def F_X9_readRows_92_1 (I : WI) (L : WL)  (a2 : Int32) : Option ((WI × WL) ⊕ (Int32 × WI × WL)) :=
  (F_X9_readRows_93_1 I L a2 0)
theorem V_X9_readRows_92_1  {I : WI} {L : WL}  {a2 : Int32} {P : ((WI × WL) ⊕ (Int32 × WI × WL)) → Prop} {t : Tg} (he : ∀ x : (WI × WL), P (.inl x) → V (zM x_X9_readRows 3 0 0 t) 189 [(0, .ref 33)] [] ly0 (p1 x) (p2 x) R0 0 0) (hk : ∀ x : (Int32 × WI × WL), P (.inr x) → V (zM x_X9_readRows 3 0 0 t) 17 [(0, .ref 33), (1, .int (p1 x))] [] ly0 (p1 (p2 x)) (p2 (p2 x)) R0 0 0) (kk : oP P (F_X9_readRows_92_1 I L a2)) : V (zM x_X9_readRows 3 0 0 t) 92 [(0, .ref 33), (2, .int a2)] [.ref 33] ly0 I L R0 0 0 :=
  V_iconst (tat ok_X9_readRows_1 (i := 10) (q := 93) rfl rfl) ic_0 <|
    V_X9_readRows_93_1 rfl he hk (jx (P := oP P) kk rfl)
def F_X9_readRows_88_1 (I : WI) (L : WL)  (a2 : Int32) : Option ((WI × WL) ⊕ (Int32 × WI × WL)) :=
  (F_X9_readRows_93_1 I L a2 1)
theorem V_X9_readRows_88_1  {I : WI} {L : WL}  {a2 : Int32} {P : ((WI × WL) ⊕ (Int32 × WI × WL)) → Prop} {t : Tg} (he : ∀ x : (WI × WL), P (.inl x) → V (zM x_X9_readRows 3 0 0 t) 189 [(0, .ref 33)] [] ly0 (p1 x) (p2 x) R0 0 0) (hk : ∀ x : (Int32 × WI × WL), P (.inr x) → V (zM x_X9_readRows 3 0 0 t) 17 [(0, .ref 33), (1, .int (p1 x))] [] ly0 (p1 (p2 x)) (p2 (p2 x)) R0 0 0) (kk : oP P (F_X9_readRows_88_1 I L a2)) : V (zM x_X9_readRows 3 0 0 t) 88 [(0, .ref 33), (2, .int a2)] [.ref 33] ly0 I L R0 0 0 :=
  V_iconst (tat ok_X9_readRows_1 (i := 8) (q := 89) rfl rfl) ic_1 <|
    V_goto (tat ok_X9_readRows_1 (i := 9) (q := 92) rfl rfl) rfl <|
    V_X9_readRows_93_1 rfl he hk (jx (P := oP P) kk rfl)
def F_X9_readRows_52_1 (I : WI) (L : WL)  (s0 : Int32) : Option ((WI × WL) ⊕ (Int32 × WI × WL)) :=
  (if 8 < (((F_X9_needs I s0 5) 33 22) - ((F_X9_needs I s0 5) 33 23)) then (F_X9_readRows_92_1 (F_X9_needs I s0 5) L (((F_X9_needs I s0 5) 33 22) - ((F_X9_needs I s0 5) 33 23))) else (if ((F_X9_needs I s0 5) 33 28) = 0 then (F_X9_readRows_88_1 (F_X9_needs I s0 5) L (((F_X9_needs I s0 5) 33 22) - ((F_X9_needs I s0 5) 33 23))) else (if (((F_X9_needs I s0 5) 33 22) - ((F_X9_needs I s0 5) 33 23)) = ((F_X9_needs I s0 5) 33 29) then (F_X9_readRows_88_1 (F_X9_needs I s0 5) L (((F_X9_needs I s0 5) 33 22) - ((F_X9_needs I s0 5) 33 23))) else (F_X9_readRows_92_1 (F_X9_needs I s0 5) L (((F_X9_needs I s0 5) 33 22) - ((F_X9_needs I s0 5) 33 23))))))
theorem V_X9_readRows_52_1  {I : WI} {L : WL}  {s0 : Int32} {P : ((WI × WL) ⊕ (Int32 × WI × WL)) → Prop} {t : Tg} (hs0 : bz s0 = s0) (he : ∀ x : (WI × WL), P (.inl x) → V (zM x_X9_readRows 3 0 0 t) 189 [(0, .ref 33)] [] ly0 (p1 x) (p2 x) R0 0 0) (hk : ∀ x : (Int32 × WI × WL), P (.inr x) → V (zM x_X9_readRows 3 0 0 t) 17 [(0, .ref 33), (1, .int (p1 x))] [] ly0 (p1 (p2 x)) (p2 (p2 x)) R0 0 0) (kk : oP P (F_X9_readRows_52_1 I L s0)) : V (zM x_X9_readRows 3 0 0 t) 52 [(0, .ref 33)] [.int s0, .ref 33] ly0 I L R0 0 0 :=
  V_iconst (tat ok_X9_readRows_0 (i := 29) (q := 53) rfl rfl) ic_5 <|
    V_cv2v (ct_X9_needs I L s0 5 ) mo_X9_needs (tat ok_X9_readRows_0 (i := 30) (q := 56) rfl rfl) ml_X9_138 rfl ⟨by decide, _, rfl, rfl⟩ ⟨(Nat.le_of_ble_eq_true rfl), (Nat.le_of_ble_eq_true rfl)⟩ ⟨(Nat.le_of_ble_eq_true rfl), (Nat.le_of_ble_eq_true rfl)⟩ (Nat.le_of_ble_eq_true rfl) <|
    V_aload_n (tat ok_X9_readRows_0 (i := 31) (q := 57) rfl rfl) 0 rfl rfl <|
    V_getI (tat ok_X9_readRows_0 (i := 32) (q := 60) rfl rfl) fk_X9_110 rfl <|
    V_aload_n (tat ok_X9_readRows_0 (i := 33) (q := 61) rfl rfl) 0 rfl rfl <|
    V_getI (tat ok_X9_readRows_0 (i := 34) (q := 64) rfl rfl) fk_X9_104 rfl <|
    V_isub (tat ok_X9_readRows_0 (i := 35) (q := 65) rfl rfl) <|
    V_istore_n (lv' := [(2, .int (((F_X9_needs I s0 5) 33 22) - ((F_X9_needs I s0 5) 33 23))), (0, .ref 33)]) (tat ok_X9_readRows_0 (i := 36) (q := 66) rfl rfl) rfl (Nat.le_of_ble_eq_true rfl) rfl <|
    V_aload_n (tat ok_X9_readRows_0 (i := 37) (q := 67) rfl rfl) 1 rfl rfl <|
    V_iload_n (tat ok_X9_readRows_0 (i := 38) (q := 68) rfl rfl) 0 rfl rfl <|
    V_bipush (tat ok_X9_readRows_0 (i := 39) (q := 70) rfl rfl) bp_8 <|
    V_icmp_gt (tat ok_X9_readRows_1 (i := 0) (q := 73) rfl rfl) rfl (fun c5 => V_pick [1, 0] rfl (V_X9_readRows_92_1  he hk (jx (P := oP P) kk (if_pos c5)))) (fun c5 => V_aload_n (tat ok_X9_readRows_1 (i := 1) (q := 74) rfl rfl) 1 rfl rfl <|
    V_getI (tat ok_X9_readRows_1 (i := 2) (q := 77) rfl rfl) fk_X9_142 rfl <|
    V_if_eq (tat ok_X9_readRows_1 (i := 3) (q := 80) rfl rfl) rfl (fun c11 => V_pick [1, 0] rfl (V_X9_readRows_88_1  he hk (jx (P := oP P) kk (Eq.trans (if_neg c5) (if_pos c11))))) (fun c11 => V_iload_n (tat ok_X9_readRows_1 (i := 4) (q := 81) rfl rfl) 0 rfl rfl <|
    V_aload_n (tat ok_X9_readRows_1 (i := 5) (q := 82) rfl rfl) 1 rfl rfl <|
    V_getI (tat ok_X9_readRows_1 (i := 6) (q := 85) rfl rfl) fk_X9_145 rfl <|
    V_icmp_ne (tat ok_X9_readRows_1 (i := 7) (q := 88) rfl rfl) rfl (fun c12 => V_pick [1, 0] rfl (V_X9_readRows_92_1  he hk (jx (P := oP P) kk (Eq.trans (if_neg c5) (Eq.trans (if_neg c11) (if_neg c12)))))) (fun c12 => V_pick [1, 0] rfl (V_X9_readRows_88_1  he hk (jx (P := oP P) kk (Eq.trans (if_neg c5) (Eq.trans (if_neg c11) (if_pos c12))))))))
def F_X9_readRows_17_1 (I : WI) (L : WL)  (a1 : Int32) : Option ((WI × WL) ⊕ (Int32 × WI × WL)) :=
  (if (I 33 26) = 0 then (if a1 = 0 then some (.inl (I, L)) else (Option.bind (F_X9_isRowName I) (fun v3 => (if 8 ≤ ((F_X9_needs I v3 2) 33 28) then (F_X9_readRows_52_1 (F_X9_needs I v3 2) L 0) else (F_X9_readRows_52_1 (F_X9_needs I v3 2) L 1))))) else some (.inl (I, L)))
theorem V_X9_readRows_17_1  {I : WI} {L : WL}  {a1 : Int32} {P : ((WI × WL) ⊕ (Int32 × WI × WL)) → Prop} {t : Tg} (he : ∀ x : (WI × WL), P (.inl x) → V (zM x_X9_readRows 3 0 0 t) 189 [(0, .ref 33)] [] ly0 (p1 x) (p2 x) R0 0 0) (hk : ∀ x : (Int32 × WI × WL), P (.inr x) → V (zM x_X9_readRows 3 0 0 t) 17 [(0, .ref 33), (1, .int (p1 x))] [] ly0 (p1 (p2 x)) (p2 (p2 x)) R0 0 0) (kk : oP P (F_X9_readRows_17_1 I L a1)) : V (zM x_X9_readRows 3 0 0 t) 17 [(0, .ref 33), (1, .int a1)] [] ly0 I L R0 0 0 :=
  V_aload_n (tat ok_X9_readRows_0 (i := 11) (q := 18) rfl rfl) 0 rfl rfl <|
    V_getI (tat ok_X9_readRows_0 (i := 12) (q := 21) rfl rfl) fk_X9_101 rfl <|
    V_if_ne (tat ok_X9_readRows_0 (i := 13) (q := 24) rfl rfl) rfl (fun c1 => V_pick [0] rfl (he (I, L) (jx (P := oP P) kk (if_neg c1)))) (fun c1 => V_iload_n (tat ok_X9_readRows_0 (i := 14) (q := 25) rfl rfl) 1 rfl rfl <|
    V_if_eq (tat ok_X9_readRows_0 (i := 15) (q := 28) rfl rfl) rfl (fun c2 => V_pick [0] rfl (he (I, L) (jx (P := oP P) kk (Eq.trans (if_pos c1) (if_pos c2))))) (fun c2 => V_aload_n (tat ok_X9_readRows_0 (i := 16) (q := 29) rfl rfl) 0 rfl rfl <|
    V_aload_n (tat ok_X9_readRows_0 (i := 17) (q := 30) rfl rfl) 0 rfl rfl <|
    oP_case (jx (P := oP P) kk (Eq.trans (if_pos c1) (if_neg c2))) (fun v3 e3 _ => V_cv0 (ct_X9_isRowName I L   e3) mo_X9_isRowName (tat ok_X9_readRows_0 (i := 18) (q := 33) rfl rfl) ml_X9_151 rfl ⟨by decide, _, rfl, rfl⟩ ⟨(Nat.le_of_ble_eq_true rfl), (Nat.le_of_ble_eq_true rfl)⟩ ⟨(Nat.le_of_ble_eq_true rfl), (Nat.le_of_ble_eq_true rfl)⟩ (Nat.le_of_ble_eq_true rfl) <|
    V_iconst (tat ok_X9_readRows_0 (i := 19) (q := 34) rfl rfl) ic_2 <|
    V_cv2v (ct_X9_needs I L v3 2 ) mo_X9_needs (tat ok_X9_readRows_0 (i := 20) (q := 37) rfl rfl) ml_X9_138 rfl ⟨by decide, _, rfl, rfl⟩ ⟨(Nat.le_of_ble_eq_true rfl), (Nat.le_of_ble_eq_true rfl)⟩ ⟨(Nat.le_of_ble_eq_true rfl), (Nat.le_of_ble_eq_true rfl)⟩ (Nat.le_of_ble_eq_true rfl) <|
    V_aload_n (tat ok_X9_readRows_0 (i := 21) (q := 38) rfl rfl) 0 rfl rfl <|
    V_aload_n (tat ok_X9_readRows_0 (i := 22) (q := 39) rfl rfl) 0 rfl rfl <|
    V_getI (tat ok_X9_readRows_0 (i := 23) (q := 42) rfl rfl) fk_X9_142 rfl <|
    V_bipush (tat ok_X9_readRows_0 (i := 24) (q := 44) rfl rfl) bp_8 <|
    V_icmp_ge (tat ok_X9_readRows_0 (i := 25) (q := 47) rfl rfl) rfl (fun c4 => V_iconst (tat ok_X9_readRows_0 (i := 28) (q := 52) rfl rfl) ic_0 <|
    V_pick [0] rfl (V_X9_readRows_52_1 rfl he hk (jx (P := oP P) kk (Eq.trans (if_pos c1) (Eq.trans (if_neg c2) (Eq.trans (ob e3) (if_pos c4))))))) (fun c4 => V_iconst (tat ok_X9_readRows_0 (i := 26) (q := 48) rfl rfl) ic_1 <|
    V_goto (tat ok_X9_readRows_0 (i := 27) (q := 51) rfl rfl) rfl <|
    V_pick [0] rfl (V_X9_readRows_52_1 rfl he hk (jx (P := oP P) kk (Eq.trans (if_pos c1) (Eq.trans (if_neg c2) (Eq.trans (ob e3) (if_neg c4))))))))))
def F_X9_readRows_189 (I : WI) (L : WL) : Option (WI × WL) :=
  some (I, L)
theorem V_X9_readRows_189  {I : WI} {L : WL}   {P : (WI × WL) → Prop} {t : Tg} (hr : ∀ v, P v → t = (none, ly0, (p1 v), (p2 v), R0)) (kk : oP P (F_X9_readRows_189 I L)) : V (zM x_X9_readRows 3 0 0 t) 189 [(0, .ref 33)] [] ly0 I L R0 0 0 :=
  V_vret (tat ok_X9_readRows_2 (i := 22) (q := 190) rfl rfl) rfl (hr (I, L) (jx (P := oP P) kk rfl)) ⟨(Nat.le_of_ble_eq_true rfl), (Nat.le_of_ble_eq_true rfl)⟩
def F_X9_readRows_17 (I : WI) (L : WL)  (a1 : Int32) : Option (WI × WL) :=
  (lpp (fun x => (F_X9_readRows_17_1 (p1 (p2 x)) (p2 (p2 x)) (p1 x))) 4294967296 (a1, I, L)).bind (fun q => (F_X9_readRows_189 (p1 q) (p2 q)))
theorem V_X9_readRows_17  {I : WI} {L : WL}  {a1 : Int32} {P : (WI × WL) → Prop} {t : Tg} (hb1 : bz a1 = a1) (hr : ∀ v, P v → t = (none, ly0, (p1 v), (p2 v), R0)) (kk : oP P (F_X9_readRows_17 I L a1)) : V (zM x_X9_readRows 3 0 0 t) 17 [(0, .ref 33), (1, .int a1)] [] ly0 I L R0 0 0 :=
  V_lpp (fun x => (F_X9_readRows_17_1 (p1 (p2 x)) (p2 (p2 x)) (p1 x))) (fun x => V (zM x_X9_readRows 3 0 0 t) 17 [(0, .ref 33), (1, .int (p1 x))] [] ly0 (p1 (p2 x)) (p2 (p2 x)) R0 0 0) (fun x => oP P ((F_X9_readRows_189 (p1 x) (p2 x)))) (s := (a1, I, L)) (fun x e0 => V_X9_readRows_17_1 (P := Sum.elim (fun x => oP P ((F_X9_readRows_189 (p1 x) (p2 x)))) (fun x => V (zM x_X9_readRows 3 0 0 t) 17 [(0, .ref 33), (1, .int (p1 x))] [] ly0 (p1 (p2 x)) (p2 (p2 x)) R0 0 0))  (fun x e => V_X9_readRows_189  hr e) (fun _ e => e) e0) (oP_bind (f := fun q => _) kk)
def F_X9_readRows (I : WI) (L : WL) : Option (WI × WL) :=
  (F_X9_readRows_17 (u2 (u2 I 33 28 0) 33 29 0) (u2 L 33 30 0) 1)
theorem V_X9_readRows  {I : WI} {L : WL}   {P : (WI × WL) → Prop} {t : Tg} (hr : ∀ v, P v → t = (none, ly0, (p1 v), (p2 v), R0)) (kk : oP P (F_X9_readRows I L)) : V (zM x_X9_readRows 3 0 0 t) 0 [(0, .ref 33)] [] ly0 I L R0 0 0 :=
  V_aload_n (tat ok_X9_readRows_0 (i := 0) (q := 1) rfl rfl) 0 rfl rfl <|
    V_iconst (tat ok_X9_readRows_0 (i := 1) (q := 2) rfl rfl) ic_0 <|
    V_putI (tat ok_X9_readRows_0 (i := 2) (q := 5) rfl rfl) fk_X9_142 rfl rfl <|
    V_aload_n (tat ok_X9_readRows_0 (i := 3) (q := 6) rfl rfl) 0 rfl rfl <|
    V_iconst (tat ok_X9_readRows_0 (i := 4) (q := 7) rfl rfl) ic_0 <|
    V_putI (tat ok_X9_readRows_0 (i := 5) (q := 10) rfl rfl) fk_X9_145 rfl rfl <|
    V_aload_n (tat ok_X9_readRows_0 (i := 6) (q := 11) rfl rfl) 0 rfl rfl <|
    V_lconst (v := 0) (tat ok_X9_readRows_0 (i := 7) (q := 12) rfl rfl) rfl <|
    V_putL (tat ok_X9_readRows_0 (i := 8) (q := 15) rfl rfl) fk_X9_148 rfl rfl <|
    V_iconst (tat ok_X9_readRows_0 (i := 9) (q := 16) rfl rfl) ic_1 <|
    V_istore_n (lv' := [(1, .int 1), (0, .ref 33)]) (tat ok_X9_readRows_0 (i := 10) (q := 17) rfl rfl) rfl (Nat.le_of_ble_eq_true rfl) rfl <|
    V_pick [1, 0] rfl (V_X9_readRows_17 rfl hr (jx (P := oP P) kk rfl))
theorem ct_X9_readRows  (I : WI) (L : WL)  {v : (WI × WL)} (h : (F_X9_readRows I L) = some v) : Ct x_X9_readRows 3 [.ref 33] ly0 I L R0 0 0 (none, ly0, (p1 v), (p2 v), R0) :=
  Ct_of_V mo_X9_readRows.1 (Nat.le_of_ble_eq_true rfl) (V_X9_readRows (P := fun x => x = v)  (fun _ e => by rw [e]) (by rw [h]; exact rfl))
def F_X9_readAct_144 (I : WI) (a1 : Int32) : Option WI :=
  (Option.bind (F_X9_next I) (fun v12 => some v12))
theorem V_X9_readAct_144  {I : WI} {L : WL} {a1 : Int32}  {P : WI → Prop} {t : Tg} (hr : ∀ v, P v → t = (none, ly0, v, L, R0)) (kk : oP P (F_X9_readAct_144 I a1)) : V (zM x_X9_readAct 4 0 0 t) 144 [(0, .ref 33), (1, .int a1)] [] ly0 I L R0 0 0 :=
  V_aload_n (tat ok_X9_readAct_1 (i := 39) (q := 145) rfl rfl) 0 rfl rfl <|
    oP_case (jx (P := oP P) kk rfl) (fun v12 e12 _ => V_cv0v (ct_X9_next I L   e12) mo_X9_next (tat ok_X9_readAct_2 (i := 0) (q := 148) rfl rfl) ml_X9_159 rfl ⟨by decide, _, rfl, rfl⟩ ⟨(Nat.le_of_ble_eq_true rfl), (Nat.le_of_ble_eq_true rfl)⟩ ⟨(Nat.le_of_ble_eq_true rfl), (Nat.le_of_ble_eq_true rfl)⟩ (Nat.le_of_ble_eq_true rfl) <|
    V_vret (tat ok_X9_readAct_2 (i := 1) (q := 149) rfl rfl) rfl (hr v12 (jx (P := oP P) kk (ob e12))) ⟨(Nat.le_of_ble_eq_true rfl), (Nat.le_of_ble_eq_true rfl)⟩)
def F_X9_readAct_113 (I : WI) (a1 : Int32) (a2 : Int32) : Option WI :=
  (if (I 33 26) = 0 then (if (((4 * (I 33 18)) + 1) + a1) < 0 ∨ 48 ≤ Int32.toNatClampNeg (((4 * (I 33 18)) + 1) + a1) then none else (F_X9_readAct_144 (u2 I 38 (Int32.toNatClampNeg (((4 * (I 33 18)) + 1) + a1)) ((20 * a2) + (I 33 25))) a1)) else (F_X9_readAct_144 I a1))
theorem V_X9_readAct_113  {I : WI} {L : WL} {a1 : Int32} {a2 : Int32} {P : WI → Prop} {t : Tg} (hr : ∀ v, P v → t = (none, ly0, v, L, R0)) (kk : oP P (F_X9_readAct_113 I a1 a2)) : V (zM x_X9_readAct 4 0 0 t) 113 [(0, .ref 33), (1, .int a1), (2, .int a2)] [] ly0 I L R0 0 0 :=
  V_aload_n (tat ok_X9_readAct_1 (i := 19) (q := 114) rfl rfl) 0 rfl rfl <|
    V_getI (tat ok_X9_readAct_1 (i := 20) (q := 117) rfl rfl) fk_X9_101 rfl <|
    V_if_ne (tat ok_X9_readAct_1 (i := 21) (q := 120) rfl rfl) rfl (fun c10 => V_pick [0, 1] rfl (V_X9_readAct_144  hr (jx (P := oP P) kk (if_neg c10)))) (fun c10 => V_aload_n (tat ok_X9_readAct_1 (i := 22) (q := 121) rfl rfl) 0 rfl rfl <|
    V_getR (tat ok_X9_readAct_1 (i := 23) (q := 124) rfl rfl) fk_X9_23 rfl rfl <|
    V_iconst (tat ok_X9_readAct_1 (i := 24) (q := 125) rfl rfl) ic_4 <|
    V_aload_n (tat ok_X9_readAct_1 (i := 25) (q := 126) rfl rfl) 0 rfl rfl <|
    V_getI (tat ok_X9_readAct_1 (i := 26) (q := 129) rfl rfl) fk_X9_71 rfl <|
    V_imul (tat ok_X9_readAct_1 (i := 27) (q := 130) rfl rfl) <|
    V_iconst (tat ok_X9_readAct_1 (i := 28) (q := 131) rfl rfl) ic_1 <|
    V_iadd (tat ok_X9_readAct_1 (i := 29) (q := 132) rfl rfl) <|
    V_iload_n (tat ok_X9_readAct_1 (i := 30) (q := 133) rfl rfl) 1 rfl rfl <|
    V_iadd (tat ok_X9_readAct_1 (i := 31) (q := 134) rfl rfl) <|
    V_bipush (tat ok_X9_readAct_1 (i := 32) (q := 136) rfl rfl) bp_20 <|
    V_iload_n (tat ok_X9_readAct_1 (i := 33) (q := 137) rfl rfl) 2 rfl rfl <|
    V_imul (tat ok_X9_readAct_1 (i := 34) (q := 138) rfl rfl) <|
    V_aload_n (tat ok_X9_readAct_1 (i := 35) (q := 139) rfl rfl) 0 rfl rfl <|
    V_getI (tat ok_X9_readAct_1 (i := 36) (q := 142) rfl rfl) fk_X9_135 rfl <|
    V_iadd (tat ok_X9_readAct_1 (i := 37) (q := 143) rfl rfl) <|
    (if c11 : (((4 * (I 33 18)) + 1) + a1) < 0 ∨ 48 ≤ Int32.toNatClampNeg (((4 * (I 33 18)) + 1) + a1) then ((jx (P := oP P) kk (Eq.trans (if_pos c10) (if_pos c11)))).elim else V_iast (tat ok_X9_readAct_1 (i := 38) (q := 144) rfl rfl) rfl c11 <|
    V_pick [0, 1] rfl (V_X9_readAct_144  hr (jx (P := oP P) kk (Eq.trans (if_pos c10) (if_neg c11))))))
def F_X9_readAct_106 (I : WI) (a1 : Int32) (a2 : Int32) (s0 : Int64) (s1 : Int64) (s2 : Int64) : Option WI :=
  (F_X9_readAct_113 (F_X9_needs I (F_X9_in s2 s1 s0) 3) a1 a2)
theorem V_X9_readAct_106  {I : WI} {L : WL} {a1 : Int32} {a2 : Int32} {s0 : Int64} {s1 : Int64} {s2 : Int64} {P : WI → Prop} {t : Tg} (hr : ∀ v, P v → t = (none, ly0, v, L, R0)) (kk : oP P (F_X9_readAct_106 I a1 a2 s0 s1 s2)) : V (zM x_X9_readAct 4 0 0 t) 106 [(0, .ref 33), (1, .int a1), (2, .int a2)] [.long s0, .long s1, .long s2, .ref 33] ly0 I L R0 0 0 :=
  V_cs3 (ct_X9_in I L s2 s1 s0 ) mo_X9_in (tat ok_X9_readAct_1 (i := 16) (q := 109) rfl rfl) ml_X9_97 ⟨(Nat.le_of_ble_eq_true rfl), (Nat.le_of_ble_eq_true rfl)⟩ ⟨(Nat.le_of_ble_eq_true rfl), (Nat.le_of_ble_eq_true rfl)⟩ (Nat.le_of_ble_eq_true rfl) <|
    V_iconst (tat ok_X9_readAct_1 (i := 17) (q := 110) rfl rfl) ic_3 <|
    V_cv2v (ct_X9_needs I L (F_X9_in s2 s1 s0) 3 ) mo_X9_needs (tat ok_X9_readAct_1 (i := 18) (q := 113) rfl rfl) ml_X9_138 rfl ⟨by decide, _, rfl, rfl⟩ ⟨(Nat.le_of_ble_eq_true rfl), (Nat.le_of_ble_eq_true rfl)⟩ ⟨(Nat.le_of_ble_eq_true rfl), (Nat.le_of_ble_eq_true rfl)⟩ (Nat.le_of_ble_eq_true rfl) <|
    V_X9_readAct_113  hr (jx (P := oP P) kk rfl)
def F_X9_readAct_78 (I : WI) (a1 : Int32) (a2 : Int32) : Option WI :=
  (if (I 33 26) = 0 then (if a2 = 2 then (F_X9_readAct_106 I a1 a2 14 0 (Int32.toInt64 (I 33 25))) else (F_X9_readAct_106 I a1 a2 7 0 (Int32.toInt64 (I 33 25)))) else (F_X9_readAct_113 I a1 a2))
theorem V_X9_readAct_78  {I : WI} {L : WL} {a1 : Int32} {a2 : Int32} {P : WI → Prop} {t : Tg} (hr : ∀ v, P v → t = (none, ly0, v, L, R0)) (kk : oP P (F_X9_readAct_78 I a1 a2)) : V (zM x_X9_readAct 4 0 0 t) 78 [(0, .ref 33), (1, .int a1), (2, .int a2)] [] ly0 I L R0 0 0 :=
  V_aload_n (tat ok_X9_readAct_1 (i := 2) (q := 79) rfl rfl) 0 rfl rfl <|
    V_getI (tat ok_X9_readAct_1 (i := 3) (q := 82) rfl rfl) fk_X9_101 rfl <|
    V_if_ne (tat ok_X9_readAct_1 (i := 4) (q := 85) rfl rfl) rfl (fun c8 => V_X9_readAct_113  hr (jx (P := oP P) kk (if_neg c8))) (fun c8 => V_aload_n (tat ok_X9_readAct_1 (i := 5) (q := 86) rfl rfl) 0 rfl rfl <|
    V_aload_n (tat ok_X9_readAct_1 (i := 6) (q := 87) rfl rfl) 0 rfl rfl <|
    V_getI (tat ok_X9_readAct_1 (i := 7) (q := 90) rfl rfl) fk_X9_135 rfl <|
    V_i2l (tat ok_X9_readAct_1 (i := 8) (q := 91) rfl rfl) <|
    V_lconst (v := 0) (tat ok_X9_readAct_1 (i := 9) (q := 92) rfl rfl) rfl <|
    V_iload_n (tat ok_X9_readAct_1 (i := 10) (q := 93) rfl rfl) 2 rfl rfl <|
    V_iconst (tat ok_X9_readAct_1 (i := 11) (q := 94) rfl rfl) ic_2 <|
    V_icmp_ne (tat ok_X9_readAct_1 (i := 12) (q := 97) rfl rfl) rfl (fun c9 => V_ldc2 (tat ok_X9_readAct_1 (i := 15) (q := 106) rfl rfl) (gw_in kl_X9_168 rfl) <|
    V_X9_readAct_106  hr (jx (P := oP P) kk (Eq.trans (if_pos c8) (if_neg c9)))) (fun c9 => V_ldc2 (tat ok_X9_readAct_1 (i := 13) (q := 100) rfl rfl) (gw_in kl_X9_166 rfl) <|
    V_goto (tat ok_X9_readAct_1 (i := 14) (q := 103) rfl rfl) rfl <|
    V_X9_readAct_106  hr (jx (P := oP P) kk (Eq.trans (if_pos c8) (if_pos c9)))))
def F_X9_readAct_74 (I : WI) (a1 : Int32) (a2 : Int32) (s0 : Int32) : Option WI :=
  (F_X9_readAct_78 (F_X9_needs I s0 2) a1 a2)
theorem V_X9_readAct_74  {I : WI} {L : WL} {a1 : Int32} {a2 : Int32} {s0 : Int32} {P : WI → Prop} {t : Tg} (hs0 : bz s0 = s0) (hr : ∀ v, P v → t = (none, ly0, v, L, R0)) (kk : oP P (F_X9_readAct_74 I a1 a2 s0)) : V (zM x_X9_readAct 4 0 0 t) 74 [(0, .ref 33), (1, .int a1), (2, .int a2)] [.int s0, .ref 33] ly0 I L R0 0 0 :=
  V_iconst (tat ok_X9_readAct_1 (i := 0) (q := 75) rfl rfl) ic_2 <|
    V_cv2v (ct_X9_needs I L s0 2 ) mo_X9_needs (tat ok_X9_readAct_1 (i := 1) (q := 78) rfl rfl) ml_X9_138 rfl ⟨by decide, _, rfl, rfl⟩ ⟨(Nat.le_of_ble_eq_true rfl), (Nat.le_of_ble_eq_true rfl)⟩ ⟨(Nat.le_of_ble_eq_true rfl), (Nat.le_of_ble_eq_true rfl)⟩ (Nat.le_of_ble_eq_true rfl) <|
    V_X9_readAct_78  hr (jx (P := oP P) kk rfl)
def F_X9_readAct_45 (I : WI) (a1 : Int32) (a2 : Int32) (s0 : Int32) : Option WI :=
  (Option.bind (F_X9_next (F_X9_needs I s0 5)) (fun v5 => (if (v5 33 26) = 0 then (if (v5 33 24) = 2 then (F_X9_readAct_74 v5 a1 a2 1) else (F_X9_readAct_74 v5 a1 a2 0)) else (F_X9_readAct_78 v5 a1 a2))))
theorem V_X9_readAct_45  {I : WI} {L : WL} {a1 : Int32} {a2 : Int32} {s0 : Int32} {P : WI → Prop} {t : Tg} (hs0 : bz s0 = s0) (hr : ∀ v, P v → t = (none, ly0, v, L, R0)) (kk : oP P (F_X9_readAct_45 I a1 a2 s0)) : V (zM x_X9_readAct 4 0 0 t) 45 [(0, .ref 33), (1, .int a1), (2, .int a2)] [.int s0, .ref 33] ly0 I L R0 0 0 :=
  V_iconst (tat ok_X9_readAct_0 (i := 25) (q := 46) rfl rfl) ic_5 <|
    V_cv2v (ct_X9_needs I L s0 5 ) mo_X9_needs (tat ok_X9_readAct_0 (i := 26) (q := 49) rfl rfl) ml_X9_138 rfl ⟨by decide, _, rfl, rfl⟩ ⟨(Nat.le_of_ble_eq_true rfl), (Nat.le_of_ble_eq_true rfl)⟩ ⟨(Nat.le_of_ble_eq_true rfl), (Nat.le_of_ble_eq_true rfl)⟩ (Nat.le_of_ble_eq_true rfl) <|
    V_aload_n (tat ok_X9_readAct_0 (i := 27) (q := 50) rfl rfl) 0 rfl rfl <|
    oP_case (jx (P := oP P) kk rfl) (fun v5 e5 _ => V_cv0v (ct_X9_next (F_X9_needs I s0 5) L   e5) mo_X9_next (tat ok_X9_readAct_0 (i := 28) (q := 53) rfl rfl) ml_X9_159 rfl ⟨by decide, _, rfl, rfl⟩ ⟨(Nat.le_of_ble_eq_true rfl), (Nat.le_of_ble_eq_true rfl)⟩ ⟨(Nat.le_of_ble_eq_true rfl), (Nat.le_of_ble_eq_true rfl)⟩ (Nat.le_of_ble_eq_true rfl) <|
    V_aload_n (tat ok_X9_readAct_0 (i := 29) (q := 54) rfl rfl) 0 rfl rfl <|
    V_getI (tat ok_X9_readAct_0 (i := 30) (q := 57) rfl rfl) fk_X9_101 rfl <|
    V_if_ne (tat ok_X9_readAct_0 (i := 31) (q := 60) rfl rfl) rfl (fun c6 => V_X9_readAct_78  hr (jx (P := oP P) kk (Eq.trans (ob e5) (if_neg c6)))) (fun c6 => V_aload_n (tat ok_X9_readAct_0 (i := 32) (q := 61) rfl rfl) 0 rfl rfl <|
    V_aload_n (tat ok_X9_readAct_0 (i := 33) (q := 62) rfl rfl) 0 rfl rfl <|
    V_getI (tat ok_X9_readAct_0 (i := 34) (q := 65) rfl rfl) fk_X9_124 rfl <|
    V_iconst (tat ok_X9_readAct_0 (i := 35) (q := 66) rfl rfl) ic_2 <|
    V_icmp_ne (tat ok_X9_readAct_0 (i := 36) (q := 69) rfl rfl) rfl (fun c7 => V_iconst (tat ok_X9_readAct_0 (i := 39) (q := 74) rfl rfl) ic_0 <|
    V_X9_readAct_74 rfl hr (jx (P := oP P) kk (Eq.trans (ob e5) (Eq.trans (if_pos c6) (if_neg c7))))) (fun c7 => V_iconst (tat ok_X9_readAct_0 (i := 37) (q := 70) rfl rfl) ic_1 <|
    V_goto (tat ok_X9_readAct_0 (i := 38) (q := 73) rfl rfl) rfl <|
    V_X9_readAct_74 rfl hr (jx (P := oP P) kk (Eq.trans (ob e5) (Eq.trans (if_pos c6) (if_pos c7)))))))
def F_X9_readAct_30 (I : WI) (a1 : Int32) (a2 : Int32) (s0 : Int32) : Option WI :=
  (if 3 ≤ a1 then (F_X9_readAct_45 (F_X9_needs I s0 2) a1 a2 0) else (F_X9_readAct_45 (F_X9_needs I s0 2) a1 a2 1))
theorem V_X9_readAct_30  {I : WI} {L : WL} {a1 : Int32} {a2 : Int32} {s0 : Int32} {P : WI → Prop} {t : Tg} (hs0 : bz s0 = s0) (hr : ∀ v, P v → t = (none, ly0, v, L, R0)) (kk : oP P (F_X9_readAct_30 I a1 a2 s0)) : V (zM x_X9_readAct 4 0 0 t) 30 [(0, .ref 33), (1, .int a1), (2, .int a2)] [.int s0, .ref 33] ly0 I L R0 0 0 :=
  V_iconst (tat ok_X9_readAct_0 (i := 16) (q := 31) rfl rfl) ic_2 <|
    V_cv2v (ct_X9_needs I L s0 2 ) mo_X9_needs (tat ok_X9_readAct_0 (i := 17) (q := 34) rfl rfl) ml_X9_138 rfl ⟨by decide, _, rfl, rfl⟩ ⟨(Nat.le_of_ble_eq_true rfl), (Nat.le_of_ble_eq_true rfl)⟩ ⟨(Nat.le_of_ble_eq_true rfl), (Nat.le_of_ble_eq_true rfl)⟩ (Nat.le_of_ble_eq_true rfl) <|
    V_aload_n (tat ok_X9_readAct_0 (i := 18) (q := 35) rfl rfl) 0 rfl rfl <|
    V_iload_n (tat ok_X9_readAct_0 (i := 19) (q := 36) rfl rfl) 1 rfl rfl <|
    V_iconst (tat ok_X9_readAct_0 (i := 20) (q := 37) rfl rfl) ic_3 <|
    V_icmp_ge (tat ok_X9_readAct_0 (i := 21) (q := 40) rfl rfl) rfl (fun c4 => V_iconst (tat ok_X9_readAct_0 (i := 24) (q := 45) rfl rfl) ic_0 <|
    V_X9_readAct_45 rfl hr (jx (P := oP P) kk (if_pos c4))) (fun c4 => V_iconst (tat ok_X9_readAct_0 (i := 22) (q := 41) rfl rfl) ic_1 <|
    V_goto (tat ok_X9_readAct_0 (i := 23) (q := 44) rfl rfl) rfl <|
    V_X9_readAct_45 rfl hr (jx (P := oP P) kk (if_neg c4)))
def F_X9_readAct_17 (I : WI) (a1 : Int32) (s0 : Int32) : Option WI :=
  (if s0 = (-4) then (F_X9_readAct_30 I a1 s0 0) else (F_X9_readAct_30 I a1 s0 1))
theorem V_X9_readAct_17  {I : WI} {L : WL} {a1 : Int32} {s0 : Int32} {P : WI → Prop} {t : Tg} (hr : ∀ v, P v → t = (none, ly0, v, L, R0)) (kk : oP P (F_X9_readAct_17 I a1 s0)) : V (zM x_X9_readAct 4 0 0 t) 17 [(0, .ref 33), (1, .int a1)] [.int s0] ly0 I L R0 0 0 :=
  V_istore_n (lv' := [(2, .int s0), (0, .ref 33), (1, .int a1)]) (tat ok_X9_readAct_0 (i := 8) (q := 18) rfl rfl) rfl (Nat.le_of_ble_eq_true rfl) rfl <|
    V_aload_n (tat ok_X9_readAct_0 (i := 9) (q := 19) rfl rfl) 1 rfl rfl <|
    V_iload_n (tat ok_X9_readAct_0 (i := 10) (q := 20) rfl rfl) 0 rfl rfl <|
    V_bipush (tat ok_X9_readAct_0 (i := 11) (q := 22) rfl rfl) bp_m4 <|
    V_icmp_eq (tat ok_X9_readAct_0 (i := 12) (q := 25) rfl rfl) rfl (fun c3 => V_iconst (tat ok_X9_readAct_0 (i := 15) (q := 30) rfl rfl) ic_0 <|
    V_pick [1, 2, 0] rfl (V_X9_readAct_30 rfl hr (jx (P := oP P) kk (if_pos c3)))) (fun c3 => V_iconst (tat ok_X9_readAct_0 (i := 13) (q := 26) rfl rfl) ic_1 <|
    V_goto (tat ok_X9_readAct_0 (i := 14) (q := 29) rfl rfl) rfl <|
    V_pick [1, 2, 0] rfl (V_X9_readAct_30 rfl hr (jx (P := oP P) kk (if_neg c3))))
def F_X9_readAct (I : WI) (a1 : Int32) : Option WI :=
  (if (I 33 24) = 1 then (Option.bind (F_X9_actNow I) (fun v2 => (F_X9_readAct_17 I a1 v2))) else (F_X9_readAct_17 I a1 (-4)))
theorem V_X9_readAct  {I : WI} {L : WL} {a1 : Int32}  {P : WI → Prop} {t : Tg} (hr : ∀ v, P v → t = (none, ly0, v, L, R0)) (kk : oP P (F_X9_readAct I a1)) : V (zM x_X9_readAct 4 0 0 t) 0 [(0, .ref 33), (1, .int a1)] [] ly0 I L R0 0 0 :=
  V_aload_n (tat ok_X9_readAct_0 (i := 0) (q := 1) rfl rfl) 0 rfl rfl <|
    V_getI (tat ok_X9_readAct_0 (i := 1) (q := 4) rfl rfl) fk_X9_124 rfl <|
    V_iconst (tat ok_X9_readAct_0 (i := 2) (q := 5) rfl rfl) ic_1 <|
    V_icmp_ne (tat ok_X9_readAct_0 (i := 3) (q := 8) rfl rfl) rfl (fun c1 => V_bipush (tat ok_X9_readAct_0 (i := 7) (q := 17) rfl rfl) bp_m4 <|
    V_X9_readAct_17  hr (jx (P := oP P) kk (if_neg c1))) (fun c1 => V_aload_n (tat ok_X9_readAct_0 (i := 4) (q := 9) rfl rfl) 0 rfl rfl <|
    oP_case (jx (P := oP P) kk (if_pos c1)) (fun v2 e2 _ => V_cv0 (ct_X9_actNow I L   e2) mo_X9_actNow (tat ok_X9_readAct_0 (i := 5) (q := 12) rfl rfl) ml_X9_162 rfl ⟨by decide, _, rfl, rfl⟩ ⟨(Nat.le_of_ble_eq_true rfl), (Nat.le_of_ble_eq_true rfl)⟩ ⟨(Nat.le_of_ble_eq_true rfl), (Nat.le_of_ble_eq_true rfl)⟩ (Nat.le_of_ble_eq_true rfl) <|
    V_goto (tat ok_X9_readAct_0 (i := 6) (q := 15) rfl rfl) rfl <|
    V_X9_readAct_17  hr (jx (P := oP P) kk (Eq.trans (if_pos c1) (ob e2)))))
theorem ct_X9_readAct  (I : WI) (L : WL) (a1 : Int32)  {v : WI} (h : (F_X9_readAct I a1) = some v) : Ct x_X9_readAct 4 [.ref 33, .int a1] ly0 I L R0 0 0 (none, ly0, v, L, R0) :=
  Ct_of_V mo_X9_readAct.1 (Nat.le_of_ble_eq_true rfl) (V_X9_readAct (P := fun x => x = v)  (fun _ e => by rw [e]) (by rw [h]; exact rfl))
def F_X9_readDay_36_1 (I : WI)  (a1 : Int32) (s0 : Int32) : Option ((Int32 × WI) ⊕ (Int32 × Int32 × WI)) :=
  some (.inr (a1, s0, I))
theorem V_X9_readDay_36_1  {I : WI} {L : WL}  {a1 : Int32} {s0 : Int32} {P : ((Int32 × WI) ⊕ (Int32 × Int32 × WI)) → Prop} {t : Tg} (hs0 : bz s0 = s0) (he : ∀ x : (Int32 × WI), P (.inl x) → V (zM x_X9_readDay 5 0 0 t) 40 [(0, .ref 33), (1, .int (p1 x))] [] ly0 (p2 x) L R0 0 0) (hk : ∀ x : (Int32 × Int32 × WI), P (.inr x) → V (zM x_X9_readDay 5 0 0 t) 4 [(0, .ref 33), (1, .int (p1 x)), (2, .int (p1 (p2 x)))] [] ly0 (p2 (p2 x)) L R0 0 0) (kk : oP P (F_X9_readDay_36_1 I a1 s0)) : V (zM x_X9_readDay 5 0 0 t) 36 [(0, .ref 33), (1, .int a1)] [.int s0] ly0 I L R0 0 0 :=
  V_istore_n (lv' := [(2, .int s0), (0, .ref 33), (1, .int a1)]) (tat ok_X9_readDay_0 (i := 20) (q := 37) rfl rfl) rfl (Nat.le_of_ble_eq_true rfl) rfl <|
    V_goto (tat ok_X9_readDay_0 (i := 21) (q := 40) rfl rfl) rfl <|
    V_pick [1, 2, 0] rfl (hk (a1, s0, I) (jx (P := oP P) kk rfl))
def F_X9_readDay_4_1 (I : WI)  (a1 : Int32) (a2 : Int32) : Option ((Int32 × WI) ⊕ (Int32 × Int32 × WI)) :=
  (if (I 33 26) = 0 then (if a2 = 0 then some (.inl (a1, I)) else (Option.bind (F_X9_readAct I a1) (fun v3 => (if (v3 33 24) = 1 then (F_X9_readDay_36_1 v3 (a1 + 1) 1) else (F_X9_readDay_36_1 v3 (a1 + 1) 0))))) else some (.inl (a1, I)))
theorem V_X9_readDay_4_1  {I : WI} {L : WL}  {a1 : Int32} {a2 : Int32} {P : ((Int32 × WI) ⊕ (Int32 × Int32 × WI)) → Prop} {t : Tg} (he : ∀ x : (Int32 × WI), P (.inl x) → V (zM x_X9_readDay 5 0 0 t) 40 [(0, .ref 33), (1, .int (p1 x))] [] ly0 (p2 x) L R0 0 0) (hk : ∀ x : (Int32 × Int32 × WI), P (.inr x) → V (zM x_X9_readDay 5 0 0 t) 4 [(0, .ref 33), (1, .int (p1 x)), (2, .int (p1 (p2 x)))] [] ly0 (p2 (p2 x)) L R0 0 0) (kk : oP P (F_X9_readDay_4_1 I a1 a2)) : V (zM x_X9_readDay 5 0 0 t) 4 [(0, .ref 33), (1, .int a1), (2, .int a2)] [] ly0 I L R0 0 0 :=
  V_aload_n (tat ok_X9_readDay_0 (i := 4) (q := 5) rfl rfl) 0 rfl rfl <|
    V_getI (tat ok_X9_readDay_0 (i := 5) (q := 8) rfl rfl) fk_X9_101 rfl <|
    V_if_ne (tat ok_X9_readDay_0 (i := 6) (q := 11) rfl rfl) rfl (fun c1 => V_pick [0, 1] rfl (he (a1, I) (jx (P := oP P) kk (if_neg c1)))) (fun c1 => V_iload_n (tat ok_X9_readDay_0 (i := 7) (q := 12) rfl rfl) 2 rfl rfl <|
    V_if_eq (tat ok_X9_readDay_0 (i := 8) (q := 15) rfl rfl) rfl (fun c2 => V_pick [0, 1] rfl (he (a1, I) (jx (P := oP P) kk (Eq.trans (if_pos c1) (if_pos c2))))) (fun c2 => V_aload_n (tat ok_X9_readDay_0 (i := 9) (q := 16) rfl rfl) 0 rfl rfl <|
    V_iload_n (tat ok_X9_readDay_0 (i := 10) (q := 17) rfl rfl) 1 rfl rfl <|
    oP_case (jx (P := oP P) kk (Eq.trans (if_pos c1) (if_neg c2))) (fun v3 e3 _ => V_cv1v (ct_X9_readAct I L a1  e3) mo_X9_readAct (tat ok_X9_readDay_0 (i := 11) (q := 20) rfl rfl) ml_X9_170 rfl ⟨by decide, _, rfl, rfl⟩ ⟨(Nat.le_of_ble_eq_true rfl), (Nat.le_of_ble_eq_true rfl)⟩ ⟨(Nat.le_of_ble_eq_true rfl), (Nat.le_of_ble_eq_true rfl)⟩ (Nat.le_of_ble_eq_true rfl) <|
    V_iinc (v := (a1 + 1)) (lv' := [(1, .int (a1 + 1)), (0, .ref 33), (2, .int a2)]) (tat ok_X9_readDay_0 (i := 12) (q := 23) rfl rfl) 1 rfl (ia ic_1) (Nat.le_of_ble_eq_true rfl) rfl <|
    V_aload_n (tat ok_X9_readDay_0 (i := 13) (q := 24) rfl rfl) 1 rfl rfl <|
    V_getI (tat ok_X9_readDay_0 (i := 14) (q := 27) rfl rfl) fk_X9_124 rfl <|
    V_iconst (tat ok_X9_readDay_0 (i := 15) (q := 28) rfl rfl) ic_1 <|
    V_icmp_ne (tat ok_X9_readDay_0 (i := 16) (q := 31) rfl rfl) rfl (fun c4 => V_iconst (tat ok_X9_readDay_0 (i := 19) (q := 36) rfl rfl) ic_0 <|
    V_pick [1, 0] rfl (V_X9_readDay_36_1 rfl he hk (jx (P := oP P) kk (Eq.trans (if_pos c1) (Eq.trans (if_neg c2) (Eq.trans (ob e3) (if_neg c4))))))) (fun c4 => V_iconst (tat ok_X9_readDay_0 (i := 17) (q := 32) rfl rfl) ic_1 <|
    V_goto (tat ok_X9_readDay_0 (i := 18) (q := 35) rfl rfl) rfl <|
    V_pick [1, 0] rfl (V_X9_readDay_36_1 rfl he hk (jx (P := oP P) kk (Eq.trans (if_pos c1) (Eq.trans (if_neg c2) (Eq.trans (ob e3) (if_pos c4))))))))))
def F_X9_readDay_69 (I : WI) : Option WI :=
  some I
theorem V_X9_readDay_69  {I : WI} {L : WL}   {P : WI → Prop} {t : Tg} (hr : ∀ v, P v → t = (none, ly0, v, L, R0)) (kk : oP P (F_X9_readDay_69 I)) : V (zM x_X9_readDay 5 0 0 t) 69 [(0, .ref 33)] [] ly0 I L R0 0 0 :=
  V_vret (tat ok_X9_readDay_0 (i := 39) (q := 70) rfl rfl) rfl (hr I (jx (P := oP P) kk rfl)) ⟨(Nat.le_of_ble_eq_true rfl), (Nat.le_of_ble_eq_true rfl)⟩
def F_X9_readDay_40 (I : WI)  (a1 : Int32) : Option WI :=
  (if (I 33 26) = 0 then (if (4 * (I 33 18)) < 0 ∨ 48 ≤ Int32.toNatClampNeg (4 * (I 33 18)) then none else (F_X9_readDay_69 (u2 (u2 I 38 (Int32.toNatClampNeg (4 * (I 33 18))) a1) 33 18 (((u2 I 38 (Int32.toNatClampNeg (4 * (I 33 18))) a1) 33 18) + 1)))) else (F_X9_readDay_69 I))
theorem V_X9_readDay_40  {I : WI} {L : WL}  {a1 : Int32} {P : WI → Prop} {t : Tg} (hr : ∀ v, P v → t = (none, ly0, v, L, R0)) (kk : oP P (F_X9_readDay_40 I a1)) : V (zM x_X9_readDay 5 0 0 t) 40 [(0, .ref 33), (1, .int a1)] [] ly0 I L R0 0 0 :=
  V_aload_n (tat ok_X9_readDay_0 (i := 22) (q := 41) rfl rfl) 0 rfl rfl <|
    V_getI (tat ok_X9_readDay_0 (i := 23) (q := 44) rfl rfl) fk_X9_101 rfl <|
    V_if_ne (tat ok_X9_readDay_0 (i := 24) (q := 47) rfl rfl) rfl (fun c5 => V_pick [0] rfl (V_X9_readDay_69  hr (jx (P := oP P) kk (if_neg c5)))) (fun c5 => V_aload_n (tat ok_X9_readDay_0 (i := 25) (q := 48) rfl rfl) 0 rfl rfl <|
    V_getR (tat ok_X9_readDay_0 (i := 26) (q := 51) rfl rfl) fk_X9_23 rfl rfl <|
    V_iconst (tat ok_X9_readDay_0 (i := 27) (q := 52) rfl rfl) ic_4 <|
    V_aload_n (tat ok_X9_readDay_0 (i := 28) (q := 53) rfl rfl) 0 rfl rfl <|
    V_getI (tat ok_X9_readDay_0 (i := 29) (q := 56) rfl rfl) fk_X9_71 rfl <|
    V_imul (tat ok_X9_readDay_0 (i := 30) (q := 57) rfl rfl) <|
    V_iload_n (tat ok_X9_readDay_0 (i := 31) (q := 58) rfl rfl) 1 rfl rfl <|
    (if c6 : (4 * (I 33 18)) < 0 ∨ 48 ≤ Int32.toNatClampNeg (4 * (I 33 18)) then ((jx (P := oP P) kk (Eq.trans (if_pos c5) (if_pos c6)))).elim else V_iast (tat ok_X9_readDay_0 (i := 32) (q := 59) rfl rfl) rfl c6 <|
    V_aload_n (tat ok_X9_readDay_0 (i := 33) (q := 60) rfl rfl) 0 rfl rfl <|
    V_dup (tat ok_X9_readDay_0 (i := 34) (q := 61) rfl rfl) rfl <|
    V_getI (tat ok_X9_readDay_0 (i := 35) (q := 64) rfl rfl) fk_X9_71 rfl <|
    V_iconst (tat ok_X9_readDay_0 (i := 36) (q := 65) rfl rfl) ic_1 <|
    V_iadd (tat ok_X9_readDay_0 (i := 37) (q := 66) rfl rfl) <|
    V_putI (tat ok_X9_readDay_0 (i := 38) (q := 69) rfl rfl) fk_X9_71 rfl rfl <|
    V_pick [0] rfl (V_X9_readDay_69  hr (jx (P := oP P) kk (Eq.trans (if_pos c5) (if_neg c6))))))
def F_X9_readDay_4 (I : WI)  (a1 : Int32) (a2 : Int32) : Option WI :=
  (lpp (fun x => (F_X9_readDay_4_1 (p2 (p2 x)) (p1 x) (p1 (p2 x)))) 4294967296 (a1, a2, I)).bind (fun q => (F_X9_readDay_40 (p2 q) (p1 q)))
theorem V_X9_readDay_4  {I : WI} {L : WL}  {a1 : Int32} {a2 : Int32} {P : WI → Prop} {t : Tg} (hb1 : bz a1 = a1) (hb2 : bz a2 = a2) (hr : ∀ v, P v → t = (none, ly0, v, L, R0)) (kk : oP P (F_X9_readDay_4 I a1 a2)) : V (zM x_X9_readDay 5 0 0 t) 4 [(0, .ref 33), (1, .int a1), (2, .int a2)] [] ly0 I L R0 0 0 :=
  V_lpp (fun x => (F_X9_readDay_4_1 (p2 (p2 x)) (p1 x) (p1 (p2 x)))) (fun x => V (zM x_X9_readDay 5 0 0 t) 4 [(0, .ref 33), (1, .int (p1 x)), (2, .int (p1 (p2 x)))] [] ly0 (p2 (p2 x)) L R0 0 0) (fun x => oP P ((F_X9_readDay_40 (p2 x) (p1 x)))) (s := (a1, a2, I)) (fun x e0 => V_X9_readDay_4_1 (P := Sum.elim (fun x => oP P ((F_X9_readDay_40 (p2 x) (p1 x)))) (fun x => V (zM x_X9_readDay 5 0 0 t) 4 [(0, .ref 33), (1, .int (p1 x)), (2, .int (p1 (p2 x)))] [] ly0 (p2 (p2 x)) L R0 0 0))  (fun x e => V_X9_readDay_40  hr e) (fun _ e => e) e0) (oP_bind (f := fun q => _) kk)
def F_X9_readDay (I : WI) : Option WI :=
  (F_X9_readDay_4 I 0 1)
theorem V_X9_readDay  {I : WI} {L : WL}   {P : WI → Prop} {t : Tg} (hr : ∀ v, P v → t = (none, ly0, v, L, R0)) (kk : oP P (F_X9_readDay I)) : V (zM x_X9_readDay 5 0 0 t) 0 [(0, .ref 33)] [] ly0 I L R0 0 0 :=
  V_iconst (tat ok_X9_readDay_0 (i := 0) (q := 1) rfl rfl) ic_0 <|
    V_istore_n (lv' := [(1, .int 0), (0, .ref 33)]) (tat ok_X9_readDay_0 (i := 1) (q := 2) rfl rfl) rfl (Nat.le_of_ble_eq_true rfl) rfl <|
    V_iconst (tat ok_X9_readDay_0 (i := 2) (q := 3) rfl rfl) ic_1 <|
    V_istore_n (lv' := [(2, .int 1), (1, .int 0), (0, .ref 33)]) (tat ok_X9_readDay_0 (i := 3) (q := 4) rfl rfl) rfl (Nat.le_of_ble_eq_true rfl) rfl <|
    V_pick [2, 1, 0] rfl (V_X9_readDay_4 rfl rfl hr (jx (P := oP P) kk rfl))
theorem ct_X9_readDay  (I : WI) (L : WL)  {v : WI} (h : (F_X9_readDay I) = some v) : Ct x_X9_readDay 5 [.ref 33] ly0 I L R0 0 0 (none, ly0, v, L, R0) :=
  Ct_of_V mo_X9_readDay.1 (Nat.le_of_ble_eq_true rfl) (V_X9_readDay (P := fun x => x = v)  (fun _ e => by rw [e]) (by rw [h]; exact rfl))
def F_X9_readLine_216 (I : WI) (L : WL) : Option (WI × WL) :=
  (Option.bind (F_X9_next I) (fun v16 => some (v16, L)))
theorem V_X9_readLine_216  {I : WI} {L : WL}   {P : (WI × WL) → Prop} {t : Tg} (hr : ∀ v, P v → t = (none, ly0, (p1 v), (p2 v), R0)) (kk : oP P (F_X9_readLine_216 I L)) : V (zM x_X9_readLine 6 0 0 t) 216 [(0, .ref 33)] [] ly0 I L R0 0 0 :=
  V_aload_n (tat ok_X9_readLine_2 (i := 30) (q := 217) rfl rfl) 0 rfl rfl <|
    oP_case (jx (P := oP P) kk rfl) (fun v16 e16 _ => V_cv0v (ct_X9_next I L   e16) mo_X9_next (tat ok_X9_readLine_2 (i := 31) (q := 220) rfl rfl) ml_X9_159 rfl ⟨by decide, _, rfl, rfl⟩ ⟨(Nat.le_of_ble_eq_true rfl), (Nat.le_of_ble_eq_true rfl)⟩ ⟨(Nat.le_of_ble_eq_true rfl), (Nat.le_of_ble_eq_true rfl)⟩ (Nat.le_of_ble_eq_true rfl) <|
    V_vret (tat ok_X9_readLine_2 (i := 32) (q := 221) rfl rfl) rfl (hr (v16, L) (jx (P := oP P) kk (ob e16))) ⟨(Nat.le_of_ble_eq_true rfl), (Nat.le_of_ble_eq_true rfl)⟩)
def F_X9_readLine_212 (I : WI) (L : WL)  (s0 : Int32) : Option (WI × WL) :=
  (F_X9_readLine_216 (F_X9_needs I s0 2) L)
theorem V_X9_readLine_212  {I : WI} {L : WL}  {s0 : Int32} {P : (WI × WL) → Prop} {t : Tg} (hs0 : bz s0 = s0) (hr : ∀ v, P v → t = (none, ly0, (p1 v), (p2 v), R0)) (kk : oP P (F_X9_readLine_212 I L s0)) : V (zM x_X9_readLine 6 0 0 t) 212 [(0, .ref 33)] [.int s0, .ref 33] ly0 I L R0 0 0 :=
  V_iconst (tat ok_X9_readLine_2 (i := 28) (q := 213) rfl rfl) ic_2 <|
    V_cv2v (ct_X9_needs I L s0 2 ) mo_X9_needs (tat ok_X9_readLine_2 (i := 29) (q := 216) rfl rfl) ml_X9_138 rfl ⟨by decide, _, rfl, rfl⟩ ⟨(Nat.le_of_ble_eq_true rfl), (Nat.le_of_ble_eq_true rfl)⟩ ⟨(Nat.le_of_ble_eq_true rfl), (Nat.le_of_ble_eq_true rfl)⟩ (Nat.le_of_ble_eq_true rfl) <|
    V_X9_readLine_216  hr (jx (P := oP P) kk rfl)
def F_X9_readLine_191 (I : WI) (L : WL) : Option (WI × WL) :=
  (if (I 33 26) = 0 then (if (I 33 24) = 3 then (F_X9_readLine_212 I L 1) else (F_X9_readLine_212 I L 0)) else (F_X9_readLine_216 I L))
theorem V_X9_readLine_191  {I : WI} {L : WL}   {P : (WI × WL) → Prop} {t : Tg} (hr : ∀ v, P v → t = (none, ly0, (p1 v), (p2 v), R0)) (kk : oP P (F_X9_readLine_191 I L)) : V (zM x_X9_readLine 6 0 0 t) 191 [(0, .ref 33)] [] ly0 I L R0 0 0 :=
  V_aload_n (tat ok_X9_readLine_2 (i := 17) (q := 192) rfl rfl) 0 rfl rfl <|
    V_getI (tat ok_X9_readLine_2 (i := 18) (q := 195) rfl rfl) fk_X9_101 rfl <|
    V_if_ne (tat ok_X9_readLine_2 (i := 19) (q := 198) rfl rfl) rfl (fun c14 => V_X9_readLine_216  hr (jx (P := oP P) kk (if_neg c14))) (fun c14 => V_aload_n (tat ok_X9_readLine_2 (i := 20) (q := 199) rfl rfl) 0 rfl rfl <|
    V_aload_n (tat ok_X9_readLine_2 (i := 21) (q := 200) rfl rfl) 0 rfl rfl <|
    V_getI (tat ok_X9_readLine_2 (i := 22) (q := 203) rfl rfl) fk_X9_124 rfl <|
    V_iconst (tat ok_X9_readLine_2 (i := 23) (q := 204) rfl rfl) ic_3 <|
    V_icmp_ne (tat ok_X9_readLine_2 (i := 24) (q := 207) rfl rfl) rfl (fun c15 => V_iconst (tat ok_X9_readLine_2 (i := 27) (q := 212) rfl rfl) ic_0 <|
    V_X9_readLine_212 rfl hr (jx (P := oP P) kk (Eq.trans (if_pos c14) (if_neg c15)))) (fun c15 => V_iconst (tat ok_X9_readLine_2 (i := 25) (q := 208) rfl rfl) ic_1 <|
    V_goto (tat ok_X9_readLine_2 (i := 26) (q := 211) rfl rfl) rfl <|
    V_X9_readLine_212 rfl hr (jx (P := oP P) kk (Eq.trans (if_pos c14) (if_pos c15)))))
def F_X9_readLine_91 (I : WI) (L : WL)  (a1 : Int32) (s0 : Int32) : Option (WI × WL) :=
  (Option.bind (F_X9_next (F_X9_needs I s0 4)) (fun v10 => (if (v10 33 26) ≤ 0 then (if a1 = 12 then (Option.bind (F_X9_readDay v10) (fun v13 => (F_X9_readLine_191 v13 L))) else (Option.bind (F_X9_readRows v10 L) (fun v17 => (if a1 = 10 then (F_X9_readLine_191 (u2 (u2 (u2 (p1 v17) 33 16 1) 33 10 ((u2 (p1 v17) 33 16 1) 33 28)) 33 11 ((u2 (u2 (p1 v17) 33 16 1) 33 10 ((u2 (p1 v17) 33 16 1) 33 28)) 33 29)) (u2 (p2 v17) 33 12 ((p2 v17) 33 30))) else (F_X9_readLine_191 (u2 (u2 (u2 (p1 v17) 33 17 1) 33 13 ((u2 (p1 v17) 33 17 1) 33 28)) 33 14 ((u2 (u2 (p1 v17) 33 17 1) 33 13 ((u2 (p1 v17) 33 17 1) 33 28)) 33 29)) (u2 (p2 v17) 33 15 ((p2 v17) 33 30))))))) else some (v10, L))))
theorem V_X9_readLine_91  {I : WI} {L : WL}  {a1 : Int32} {s0 : Int32} {P : (WI × WL) → Prop} {t : Tg} (hs0 : bz s0 = s0) (hr : ∀ v, P v → t = (none, ly0, (p1 v), (p2 v), R0)) (kk : oP P (F_X9_readLine_91 I L a1 s0)) : V (zM x_X9_readLine 6 0 0 t) 91 [(0, .ref 33), (1, .int a1)] [.int s0, .ref 33] ly0 I L R0 0 0 :=
  V_iconst (tat ok_X9_readLine_1 (i := 7) (q := 92) rfl rfl) ic_4 <|
    V_cv2v (ct_X9_needs I L s0 4 ) mo_X9_needs (tat ok_X9_readLine_1 (i := 8) (q := 95) rfl rfl) ml_X9_138 rfl ⟨by decide, _, rfl, rfl⟩ ⟨(Nat.le_of_ble_eq_true rfl), (Nat.le_of_ble_eq_true rfl)⟩ ⟨(Nat.le_of_ble_eq_true rfl), (Nat.le_of_ble_eq_true rfl)⟩ (Nat.le_of_ble_eq_true rfl) <|
    V_aload_n (tat ok_X9_readLine_1 (i := 9) (q := 96) rfl rfl) 0 rfl rfl <|
    oP_case (jx (P := oP P) kk rfl) (fun v10 e10 _ => V_cv0v (ct_X9_next (F_X9_needs I s0 4) L   e10) mo_X9_next (tat ok_X9_readLine_1 (i := 10) (q := 99) rfl rfl) ml_X9_159 rfl ⟨by decide, _, rfl, rfl⟩ ⟨(Nat.le_of_ble_eq_true rfl), (Nat.le_of_ble_eq_true rfl)⟩ ⟨(Nat.le_of_ble_eq_true rfl), (Nat.le_of_ble_eq_true rfl)⟩ (Nat.le_of_ble_eq_true rfl) <|
    V_aload_n (tat ok_X9_readLine_1 (i := 11) (q := 100) rfl rfl) 0 rfl rfl <|
    V_getI (tat ok_X9_readLine_1 (i := 12) (q := 103) rfl rfl) fk_X9_101 rfl <|
    V_if_le (tat ok_X9_readLine_1 (i := 13) (q := 106) rfl rfl) rfl (fun c11 => V_iload_n (tat ok_X9_readLine_1 (i := 15) (q := 108) rfl rfl) 1 rfl rfl <|
    V_bipush (tat ok_X9_readLine_1 (i := 16) (q := 110) rfl rfl) bp_12 <|
    V_icmp_ne (tat ok_X9_readLine_1 (i := 17) (q := 113) rfl rfl) rfl (fun c12 => V_aload_n (tat ok_X9_readLine_1 (i := 21) (q := 121) rfl rfl) 0 rfl rfl <|
    oP_case (jx (P := oP P) kk (Eq.trans (ob e10) (Eq.trans (if_pos c11) (if_neg c12)))) (fun v17 e17 _ => V_cv0v (ct_X9_readRows v10 L   e17) mo_X9_readRows (tat ok_X9_readLine_1 (i := 22) (q := 124) rfl rfl) ml_X9_180 rfl ⟨by decide, _, rfl, rfl⟩ ⟨(Nat.le_of_ble_eq_true rfl), (Nat.le_of_ble_eq_true rfl)⟩ ⟨(Nat.le_of_ble_eq_true rfl), (Nat.le_of_ble_eq_true rfl)⟩ (Nat.le_of_ble_eq_true rfl) <|
    V_iload_n (tat ok_X9_readLine_1 (i := 23) (q := 125) rfl rfl) 1 rfl rfl <|
    V_bipush (tat ok_X9_readLine_1 (i := 24) (q := 127) rfl rfl) bp_10 <|
    V_icmp_ne (tat ok_X9_readLine_1 (i := 25) (q := 130) rfl rfl) rfl (fun c18 => V_aload_n (tat ok_X9_readLine_2 (i := 2) (q := 163) rfl rfl) 0 rfl rfl <|
    V_iconst (tat ok_X9_readLine_2 (i := 3) (q := 164) rfl rfl) ic_1 <|
    V_putZ (tat ok_X9_readLine_2 (i := 4) (q := 167) rfl rfl) fk_X9_68 rfl rfl rfl <|
    V_aload_n (tat ok_X9_readLine_2 (i := 5) (q := 168) rfl rfl) 0 rfl rfl <|
    V_aload_n (tat ok_X9_readLine_2 (i := 6) (q := 169) rfl rfl) 0 rfl rfl <|
    V_getI (tat ok_X9_readLine_2 (i := 7) (q := 172) rfl rfl) fk_X9_142 rfl <|
    V_putI (tat ok_X9_readLine_2 (i := 8) (q := 175) rfl rfl) fk_X9_183 rfl rfl <|
    V_aload_n (tat ok_X9_readLine_2 (i := 9) (q := 176) rfl rfl) 0 rfl rfl <|
    V_aload_n (tat ok_X9_readLine_2 (i := 10) (q := 177) rfl rfl) 0 rfl rfl <|
    V_getI (tat ok_X9_readLine_2 (i := 11) (q := 180) rfl rfl) fk_X9_145 rfl <|
    V_putI (tat ok_X9_readLine_2 (i := 12) (q := 183) rfl rfl) fk_X9_186 rfl rfl <|
    V_aload_n (tat ok_X9_readLine_2 (i := 13) (q := 184) rfl rfl) 0 rfl rfl <|
    V_aload_n (tat ok_X9_readLine_2 (i := 14) (q := 185) rfl rfl) 0 rfl rfl <|
    V_getL (tat ok_X9_readLine_2 (i := 15) (q := 188) rfl rfl) fk_X9_148 rfl <|
    V_putL (tat ok_X9_readLine_2 (i := 16) (q := 191) rfl rfl) fk_X9_61 rfl rfl <|
    V_pick [0] rfl (V_X9_readLine_191  hr (jx (P := oP P) kk (Eq.trans (ob e10) (Eq.trans (if_pos c11) (Eq.trans (if_neg c12) (Eq.trans (ob e17) (if_neg c18)))))))) (fun c18 => V_aload_n (tat ok_X9_readLine_1 (i := 26) (q := 131) rfl rfl) 0 rfl rfl <|
    V_iconst (tat ok_X9_readLine_1 (i := 27) (q := 132) rfl rfl) ic_1 <|
    V_putZ (tat ok_X9_readLine_1 (i := 28) (q := 135) rfl rfl) fk_X9_64 rfl rfl rfl <|
    V_aload_n (tat ok_X9_readLine_1 (i := 29) (q := 136) rfl rfl) 0 rfl rfl <|
    V_aload_n (tat ok_X9_readLine_1 (i := 30) (q := 137) rfl rfl) 0 rfl rfl <|
    V_getI (tat ok_X9_readLine_1 (i := 31) (q := 140) rfl rfl) fk_X9_142 rfl <|
    V_putI (tat ok_X9_readLine_1 (i := 32) (q := 143) rfl rfl) fk_X9_50 rfl rfl <|
    V_aload_n (tat ok_X9_readLine_1 (i := 33) (q := 144) rfl rfl) 0 rfl rfl <|
    V_aload_n (tat ok_X9_readLine_1 (i := 34) (q := 145) rfl rfl) 0 rfl rfl <|
    V_getI (tat ok_X9_readLine_1 (i := 35) (q := 148) rfl rfl) fk_X9_145 rfl <|
    V_putI (tat ok_X9_readLine_1 (i := 36) (q := 151) rfl rfl) fk_X9_54 rfl rfl <|
    V_aload_n (tat ok_X9_readLine_1 (i := 37) (q := 152) rfl rfl) 0 rfl rfl <|
    V_aload_n (tat ok_X9_readLine_1 (i := 38) (q := 153) rfl rfl) 0 rfl rfl <|
    V_getL (tat ok_X9_readLine_1 (i := 39) (q := 156) rfl rfl) fk_X9_148 rfl <|
    V_putL (tat ok_X9_readLine_2 (i := 0) (q := 159) rfl rfl) fk_X9_57 rfl rfl <|
    V_goto (tat ok_X9_readLine_2 (i := 1) (q := 162) rfl rfl) rfl <|
    V_pick [0] rfl (V_X9_readLine_191  hr (jx (P := oP P) kk (Eq.trans (ob e10) (Eq.trans (if_pos c11) (Eq.trans (if_neg c12) (Eq.trans (ob e17) (if_pos c18)))))))))) (fun c12 => V_aload_n (tat ok_X9_readLine_1 (i := 18) (q := 114) rfl rfl) 0 rfl rfl <|
    oP_case (jx (P := oP P) kk (Eq.trans (ob e10) (Eq.trans (if_pos c11) (if_pos c12)))) (fun v13 e13 _ => V_cv0v (ct_X9_readDay v10 L   e13) mo_X9_readDay (tat ok_X9_readLine_1 (i := 19) (q := 117) rfl rfl) ml_X9_177 rfl ⟨by decide, _, rfl, rfl⟩ ⟨(Nat.le_of_ble_eq_true rfl), (Nat.le_of_ble_eq_true rfl)⟩ ⟨(Nat.le_of_ble_eq_true rfl), (Nat.le_of_ble_eq_true rfl)⟩ (Nat.le_of_ble_eq_true rfl) <|
    V_goto (tat ok_X9_readLine_1 (i := 20) (q := 120) rfl rfl) rfl <|
    V_pick [0] rfl (V_X9_readLine_191  hr (jx (P := oP P) kk (Eq.trans (ob e10) (Eq.trans (if_pos c11) (Eq.trans (if_pos c12) (ob e13))))))))) (fun c11 => V_vret (tat ok_X9_readLine_1 (i := 14) (q := 107) rfl rfl) rfl (hr (v10, L) (jx (P := oP P) kk (Eq.trans (ob e10) (if_neg c11)))) ⟨(Nat.le_of_ble_eq_true rfl), (Nat.le_of_ble_eq_true rfl)⟩))
def F_X9_readLine_86 (I : WI) (L : WL)  (a1 : Int32) : Option (WI × WL) :=
  (F_X9_readLine_91 I L a1 1)
theorem V_X9_readLine_86  {I : WI} {L : WL}  {a1 : Int32} {P : (WI × WL) → Prop} {t : Tg} (hr : ∀ v, P v → t = (none, ly0, (p1 v), (p2 v), R0)) (kk : oP P (F_X9_readLine_86 I L a1)) : V (zM x_X9_readLine 6 0 0 t) 86 [(0, .ref 33), (1, .int a1)] [.ref 33] ly0 I L R0 0 0 :=
  V_iconst (tat ok_X9_readLine_1 (i := 4) (q := 87) rfl rfl) ic_1 <|
    V_goto (tat ok_X9_readLine_1 (i := 5) (q := 90) rfl rfl) rfl <|
    V_X9_readLine_91 rfl hr (jx (P := oP P) kk rfl)
def F_X9_readLine_90 (I : WI) (L : WL)  (a1 : Int32) : Option (WI × WL) :=
  (F_X9_readLine_91 I L a1 0)
theorem V_X9_readLine_90  {I : WI} {L : WL}  {a1 : Int32} {P : (WI × WL) → Prop} {t : Tg} (hr : ∀ v, P v → t = (none, ly0, (p1 v), (p2 v), R0)) (kk : oP P (F_X9_readLine_90 I L a1)) : V (zM x_X9_readLine 6 0 0 t) 90 [(0, .ref 33), (1, .int a1)] [.ref 33] ly0 I L R0 0 0 :=
  V_iconst (tat ok_X9_readLine_1 (i := 6) (q := 91) rfl rfl) ic_0 <|
    V_X9_readLine_91 rfl hr (jx (P := oP P) kk rfl)
def F_X9_readLine_73 (I : WI) (L : WL)  (a1 : Int32) : Option (WI × WL) :=
  (if a1 = 11 then (if (bz (I 33 17)) = 0 then (F_X9_readLine_86 I L a1) else (F_X9_readLine_90 I L a1)) else (F_X9_readLine_86 I L a1))
theorem V_X9_readLine_73  {I : WI} {L : WL}  {a1 : Int32} {P : (WI × WL) → Prop} {t : Tg} (hr : ∀ v, P v → t = (none, ly0, (p1 v), (p2 v), R0)) (kk : oP P (F_X9_readLine_73 I L a1)) : V (zM x_X9_readLine 6 0 0 t) 73 [(0, .ref 33), (1, .int a1)] [.ref 33] ly0 I L R0 0 0 :=
  V_iload_n (tat ok_X9_readLine_0 (i := 38) (q := 74) rfl rfl) 1 rfl rfl <|
    V_bipush (tat ok_X9_readLine_0 (i := 39) (q := 76) rfl rfl) bp_11 <|
    V_icmp_ne (tat ok_X9_readLine_1 (i := 0) (q := 79) rfl rfl) rfl (fun c8 => V_X9_readLine_86  hr (jx (P := oP P) kk (if_neg c8))) (fun c8 => V_aload_n (tat ok_X9_readLine_1 (i := 1) (q := 80) rfl rfl) 0 rfl rfl <|
    V_getZ (tat ok_X9_readLine_1 (i := 2) (q := 83) rfl rfl) fk_X9_68 rfl <|
    V_if_ne (tat ok_X9_readLine_1 (i := 3) (q := 86) rfl rfl) rfl (fun c9 => V_X9_readLine_90  hr (jx (P := oP P) kk (Eq.trans (if_pos c8) (if_neg c9)))) (fun c9 => V_X9_readLine_86  hr (jx (P := oP P) kk (Eq.trans (if_pos c8) (if_pos c9)))))
def F_X9_readLine_55 (I : WI) (L : WL)  (a1 : Int32) (s0 : Int32) : Option (WI × WL) :=
  (if a1 = 10 then (if (bz ((F_X9_needs I s0 5) 33 16)) = 0 then (F_X9_readLine_73 (F_X9_needs I s0 5) L a1) else (F_X9_readLine_90 (F_X9_needs I s0 5) L a1)) else (F_X9_readLine_73 (F_X9_needs I s0 5) L a1))
theorem V_X9_readLine_55  {I : WI} {L : WL}  {a1 : Int32} {s0 : Int32} {P : (WI × WL) → Prop} {t : Tg} (hs0 : bz s0 = s0) (hr : ∀ v, P v → t = (none, ly0, (p1 v), (p2 v), R0)) (kk : oP P (F_X9_readLine_55 I L a1 s0)) : V (zM x_X9_readLine 6 0 0 t) 55 [(0, .ref 33), (1, .int a1)] [.int s0, .ref 33] ly0 I L R0 0 0 :=
  V_iconst (tat ok_X9_readLine_0 (i := 29) (q := 56) rfl rfl) ic_5 <|
    V_cv2v (ct_X9_needs I L s0 5 ) mo_X9_needs (tat ok_X9_readLine_0 (i := 30) (q := 59) rfl rfl) ml_X9_138 rfl ⟨by decide, _, rfl, rfl⟩ ⟨(Nat.le_of_ble_eq_true rfl), (Nat.le_of_ble_eq_true rfl)⟩ ⟨(Nat.le_of_ble_eq_true rfl), (Nat.le_of_ble_eq_true rfl)⟩ (Nat.le_of_ble_eq_true rfl) <|
    V_aload_n (tat ok_X9_readLine_0 (i := 31) (q := 60) rfl rfl) 0 rfl rfl <|
    V_iload_n (tat ok_X9_readLine_0 (i := 32) (q := 61) rfl rfl) 1 rfl rfl <|
    V_bipush (tat ok_X9_readLine_0 (i := 33) (q := 63) rfl rfl) bp_10 <|
    V_icmp_ne (tat ok_X9_readLine_0 (i := 34) (q := 66) rfl rfl) rfl (fun c6 => V_X9_readLine_73  hr (jx (P := oP P) kk (if_neg c6))) (fun c6 => V_aload_n (tat ok_X9_readLine_0 (i := 35) (q := 67) rfl rfl) 0 rfl rfl <|
    V_getZ (tat ok_X9_readLine_0 (i := 36) (q := 70) rfl rfl) fk_X9_64 rfl <|
    V_if_ne (tat ok_X9_readLine_0 (i := 37) (q := 73) rfl rfl) rfl (fun c7 => V_X9_readLine_90  hr (jx (P := oP P) kk (Eq.trans (if_pos c6) (if_neg c7)))) (fun c7 => V_X9_readLine_73  hr (jx (P := oP P) kk (Eq.trans (if_pos c6) (if_pos c7)))))
def F_X9_readLine_50 (I : WI) (L : WL)  (a1 : Int32) : Option (WI × WL) :=
  (F_X9_readLine_55 I L a1 1)
theorem V_X9_readLine_50  {I : WI} {L : WL}  {a1 : Int32} {P : (WI × WL) → Prop} {t : Tg} (hr : ∀ v, P v → t = (none, ly0, (p1 v), (p2 v), R0)) (kk : oP P (F_X9_readLine_50 I L a1)) : V (zM x_X9_readLine 6 0 0 t) 50 [(0, .ref 33), (1, .int a1)] [.ref 33] ly0 I L R0 0 0 :=
  V_iconst (tat ok_X9_readLine_0 (i := 26) (q := 51) rfl rfl) ic_1 <|
    V_goto (tat ok_X9_readLine_0 (i := 27) (q := 54) rfl rfl) rfl <|
    V_X9_readLine_55 rfl hr (jx (P := oP P) kk rfl)
def F_X9_readLine_30 (I : WI) (L : WL)  (a1 : Int32) (s0 : Int32) : Option (WI × WL) :=
  (if a1 = 12 then (if 12 ≤ ((F_X9_needs I s0 2) 33 18) then (F_X9_readLine_55 (F_X9_needs I s0 2) L a1 0) else (F_X9_readLine_50 (F_X9_needs I s0 2) L a1)) else (F_X9_readLine_50 (F_X9_needs I s0 2) L a1))
theorem V_X9_readLine_30  {I : WI} {L : WL}  {a1 : Int32} {s0 : Int32} {P : (WI × WL) → Prop} {t : Tg} (hs0 : bz s0 = s0) (hr : ∀ v, P v → t = (none, ly0, (p1 v), (p2 v), R0)) (kk : oP P (F_X9_readLine_30 I L a1 s0)) : V (zM x_X9_readLine 6 0 0 t) 30 [(0, .ref 33), (1, .int a1)] [.int s0, .ref 33] ly0 I L R0 0 0 :=
  V_iconst (tat ok_X9_readLine_0 (i := 16) (q := 31) rfl rfl) ic_2 <|
    V_cv2v (ct_X9_needs I L s0 2 ) mo_X9_needs (tat ok_X9_readLine_0 (i := 17) (q := 34) rfl rfl) ml_X9_138 rfl ⟨by decide, _, rfl, rfl⟩ ⟨(Nat.le_of_ble_eq_true rfl), (Nat.le_of_ble_eq_true rfl)⟩ ⟨(Nat.le_of_ble_eq_true rfl), (Nat.le_of_ble_eq_true rfl)⟩ (Nat.le_of_ble_eq_true rfl) <|
    V_aload_n (tat ok_X9_readLine_0 (i := 18) (q := 35) rfl rfl) 0 rfl rfl <|
    V_iload_n (tat ok_X9_readLine_0 (i := 19) (q := 36) rfl rfl) 1 rfl rfl <|
    V_bipush (tat ok_X9_readLine_0 (i := 20) (q := 38) rfl rfl) bp_12 <|
    V_icmp_ne (tat ok_X9_readLine_0 (i := 21) (q := 41) rfl rfl) rfl (fun c4 => V_X9_readLine_50  hr (jx (P := oP P) kk (if_neg c4))) (fun c4 => V_aload_n (tat ok_X9_readLine_0 (i := 22) (q := 42) rfl rfl) 0 rfl rfl <|
    V_getI (tat ok_X9_readLine_0 (i := 23) (q := 45) rfl rfl) fk_X9_71 rfl <|
    V_bipush (tat ok_X9_readLine_0 (i := 24) (q := 47) rfl rfl) bp_12 <|
    V_icmp_ge (tat ok_X9_readLine_0 (i := 25) (q := 50) rfl rfl) rfl (fun c5 => V_iconst (tat ok_X9_readLine_0 (i := 28) (q := 55) rfl rfl) ic_0 <|
    V_X9_readLine_55 rfl hr (jx (P := oP P) kk (Eq.trans (if_pos c4) (if_pos c5)))) (fun c5 => V_X9_readLine_50  hr (jx (P := oP P) kk (Eq.trans (if_pos c4) (if_neg c5)))))
def F_X9_readLine_17 (I : WI) (L : WL)  (s0 : Int32) : Option (WI × WL) :=
  (if s0 = (-4) then (F_X9_readLine_30 I L s0 0) else (F_X9_readLine_30 I L s0 1))
theorem V_X9_readLine_17  {I : WI} {L : WL}  {s0 : Int32} {P : (WI × WL) → Prop} {t : Tg} (hr : ∀ v, P v → t = (none, ly0, (p1 v), (p2 v), R0)) (kk : oP P (F_X9_readLine_17 I L s0)) : V (zM x_X9_readLine 6 0 0 t) 17 [(0, .ref 33)] [.int s0] ly0 I L R0 0 0 :=
  V_istore_n (lv' := [(1, .int s0), (0, .ref 33)]) (tat ok_X9_readLine_0 (i := 8) (q := 18) rfl rfl) rfl (Nat.le_of_ble_eq_true rfl) rfl <|
    V_aload_n (tat ok_X9_readLine_0 (i := 9) (q := 19) rfl rfl) 1 rfl rfl <|
    V_iload_n (tat ok_X9_readLine_0 (i := 10) (q := 20) rfl rfl) 0 rfl rfl <|
    V_bipush (tat ok_X9_readLine_0 (i := 11) (q := 22) rfl rfl) bp_m4 <|
    V_icmp_eq (tat ok_X9_readLine_0 (i := 12) (q := 25) rfl rfl) rfl (fun c3 => V_iconst (tat ok_X9_readLine_0 (i := 15) (q := 30) rfl rfl) ic_0 <|
    V_pick [1, 0] rfl (V_X9_readLine_30 rfl hr (jx (P := oP P) kk (if_pos c3)))) (fun c3 => V_iconst (tat ok_X9_readLine_0 (i := 13) (q := 26) rfl rfl) ic_1 <|
    V_goto (tat ok_X9_readLine_0 (i := 14) (q := 29) rfl rfl) rfl <|
    V_pick [1, 0] rfl (V_X9_readLine_30 rfl hr (jx (P := oP P) kk (if_neg c3))))
def F_X9_readLine (I : WI) (L : WL) : Option (WI × WL) :=
  (if (I 33 24) = 1 then (Option.bind (F_X9_lineNow I) (fun v2 => (F_X9_readLine_17 I L v2))) else (F_X9_readLine_17 I L (-4)))
theorem V_X9_readLine  {I : WI} {L : WL}   {P : (WI × WL) → Prop} {t : Tg} (hr : ∀ v, P v → t = (none, ly0, (p1 v), (p2 v), R0)) (kk : oP P (F_X9_readLine I L)) : V (zM x_X9_readLine 6 0 0 t) 0 [(0, .ref 33)] [] ly0 I L R0 0 0 :=
  V_aload_n (tat ok_X9_readLine_0 (i := 0) (q := 1) rfl rfl) 0 rfl rfl <|
    V_getI (tat ok_X9_readLine_0 (i := 1) (q := 4) rfl rfl) fk_X9_124 rfl <|
    V_iconst (tat ok_X9_readLine_0 (i := 2) (q := 5) rfl rfl) ic_1 <|
    V_icmp_ne (tat ok_X9_readLine_0 (i := 3) (q := 8) rfl rfl) rfl (fun c1 => V_bipush (tat ok_X9_readLine_0 (i := 7) (q := 17) rfl rfl) bp_m4 <|
    V_X9_readLine_17  hr (jx (P := oP P) kk (if_neg c1))) (fun c1 => V_aload_n (tat ok_X9_readLine_0 (i := 4) (q := 9) rfl rfl) 0 rfl rfl <|
    oP_case (jx (P := oP P) kk (if_pos c1)) (fun v2 e2 _ => V_cv0 (ct_X9_lineNow I L   e2) mo_X9_lineNow (tat ok_X9_readLine_0 (i := 5) (q := 12) rfl rfl) ml_X9_174 rfl ⟨by decide, _, rfl, rfl⟩ ⟨(Nat.le_of_ble_eq_true rfl), (Nat.le_of_ble_eq_true rfl)⟩ ⟨(Nat.le_of_ble_eq_true rfl), (Nat.le_of_ble_eq_true rfl)⟩ (Nat.le_of_ble_eq_true rfl) <|
    V_goto (tat ok_X9_readLine_0 (i := 6) (q := 15) rfl rfl) rfl <|
    V_X9_readLine_17  hr (jx (P := oP P) kk (Eq.trans (if_pos c1) (ob e2)))))
theorem ct_X9_readLine  (I : WI) (L : WL)  {v : (WI × WL)} (h : (F_X9_readLine I L) = some v) : Ct x_X9_readLine 6 [.ref 33] ly0 I L R0 0 0 (none, ly0, (p1 v), (p2 v), R0) :=
  Ct_of_V mo_X9_readLine.1 (Nat.le_of_ble_eq_true rfl) (V_X9_readLine (P := fun x => x = v)  (fun _ e => by rw [e]) (by rw [h]; exact rfl))
def F_X9_isActOf_55 (a0 : Int32) (a1 : Int32) (a2 : Int32) (a3 : Int32) (s0 : Int32) : Int32 :=
  s0
theorem V_X9_isActOf_55  {I : WI} {L : WL} {a0 : Int32} {a1 : Int32} {a2 : Int32} {a3 : Int32} {s0 : Int32} {P : Int32 → Prop} {t : Tg} (hs0 : bz s0 = s0) (hr : ∀ v, P v → t = (some (.int v), ly0, I, L, R0)) (kk : P (F_X9_isActOf_55 a0 a1 a2 a3 s0)) : V (zM x_X9_isActOf 2 0 0 t) 55 [(0, .int a0), (1, .int a1), (2, .int a2), (3, .int a3)] [.int s0] ly0 I L R0 0 0 :=
  V_iret (tat ok_X9_isActOf_0 (i := 35) (q := 56) rfl rfl) _ rfl (bz_nf hs0).1 (hr s0 (jx (P := P) kk rfl)) ⟨(Nat.le_of_ble_eq_true rfl), (Nat.le_of_ble_eq_true rfl)⟩
def F_X9_isActOf_54 (a0 : Int32) (a1 : Int32) (a2 : Int32) (a3 : Int32) : Int32 :=
  (F_X9_isActOf_55 a0 a1 a2 a3 0)
theorem V_X9_isActOf_54  {I : WI} {L : WL} {a0 : Int32} {a1 : Int32} {a2 : Int32} {a3 : Int32}  {P : Int32 → Prop} {t : Tg} (hr : ∀ v, P v → t = (some (.int v), ly0, I, L, R0)) (kk : P (F_X9_isActOf_54 a0 a1 a2 a3)) : V (zM x_X9_isActOf 2 0 0 t) 54 [(0, .int a0), (1, .int a1), (2, .int a2), (3, .int a3)] [] ly0 I L R0 0 0 :=
  V_iconst (tat ok_X9_isActOf_0 (i := 34) (q := 55) rfl rfl) ic_0 <|
    V_X9_isActOf_55 rfl hr (jx (P := P) kk rfl)
def F_X9_isActOf_44 (a0 : Int32) (a1 : Int32) (a2 : Int32) (a3 : Int32) (s0 : Int64) (s1 : Int64) (s2 : Int64) : Int32 :=
  (if (F_X9_in s2 s1 s0) = 0 then (F_X9_isActOf_54 a0 a1 a2 a3) else (F_X9_isActOf_55 a0 a1 a2 a3 1))
theorem V_X9_isActOf_44  {I : WI} {L : WL} {a0 : Int32} {a1 : Int32} {a2 : Int32} {a3 : Int32} {s0 : Int64} {s1 : Int64} {s2 : Int64} {P : Int32 → Prop} {t : Tg} (hr : ∀ v, P v → t = (some (.int v), ly0, I, L, R0)) (kk : P (F_X9_isActOf_44 a0 a1 a2 a3 s0 s1 s2)) : V (zM x_X9_isActOf 2 0 0 t) 44 [(0, .int a0), (1, .int a1), (2, .int a2), (3, .int a3)] [.long s0, .long s1, .long s2] ly0 I L R0 0 0 :=
  V_cs3 (ct_X9_in I L s2 s1 s0 ) mo_X9_in (tat ok_X9_isActOf_0 (i := 30) (q := 47) rfl rfl) ml_X9_97 ⟨(Nat.le_of_ble_eq_true rfl), (Nat.le_of_ble_eq_true rfl)⟩ ⟨(Nat.le_of_ble_eq_true rfl), (Nat.le_of_ble_eq_true rfl)⟩ (Nat.le_of_ble_eq_true rfl) <|
    V_if_eq (tat ok_X9_isActOf_0 (i := 31) (q := 50) rfl rfl) rfl (fun c3 => V_X9_isActOf_54  hr (jx (P := P) kk (if_pos c3))) (fun c3 => V_iconst (tat ok_X9_isActOf_0 (i := 32) (q := 51) rfl rfl) ic_1 <|
    V_goto (tat ok_X9_isActOf_0 (i := 33) (q := 54) rfl rfl) rfl <|
    V_X9_isActOf_55 rfl hr (jx (P := P) kk (if_neg c3)))
def F_X9_isActOf (a0 : Int32) (a1 : Int32) (a2 : Int32) (a3 : Int32) : Int32 :=
  (if (F_X9_in (Int32.toInt64 a0) 0 2) = 0 then (F_X9_isActOf_54 a0 a1 a2 a3) else (if a0 = 0 then (F_X9_isActOf_44 a0 a1 a2 a3 (Int32.toInt64 (a2 - 1)) 0 (Int32.toInt64 a1)) else (if a0 = 1 then (F_X9_isActOf_44 a0 a1 a2 a3 (Int32.toInt64 (a3 - 1)) 0 (Int32.toInt64 a1)) else (F_X9_isActOf_44 a0 a1 a2 a3 (Int32.toInt64 ((a2 + a3) - 2)) 0 (Int32.toInt64 a1)))))
theorem V_X9_isActOf  {I : WI} {L : WL} {a0 : Int32} {a1 : Int32} {a2 : Int32} {a3 : Int32}  {P : Int32 → Prop} {t : Tg} (hr : ∀ v, P v → t = (some (.int v), ly0, I, L, R0)) (kk : P (F_X9_isActOf a0 a1 a2 a3)) : V (zM x_X9_isActOf 2 0 0 t) 0 [(0, .int a0), (1, .int a1), (2, .int a2), (3, .int a3)] [] ly0 I L R0 0 0 :=
  V_iload_n (tat ok_X9_isActOf_0 (i := 0) (q := 1) rfl rfl) 0 rfl rfl <|
    V_i2l (tat ok_X9_isActOf_0 (i := 1) (q := 2) rfl rfl) <|
    V_lconst (v := 0) (tat ok_X9_isActOf_0 (i := 2) (q := 3) rfl rfl) rfl <|
    V_ldc2 (tat ok_X9_isActOf_0 (i := 3) (q := 6) rfl rfl) (gw_in kl_X9_189 rfl) <|
    V_cs3 (ct_X9_in I L (Int32.toInt64 a0) 0 2 ) mo_X9_in (tat ok_X9_isActOf_0 (i := 4) (q := 9) rfl rfl) ml_X9_97 ⟨(Nat.le_of_ble_eq_true rfl), (Nat.le_of_ble_eq_true rfl)⟩ ⟨(Nat.le_of_ble_eq_true rfl), (Nat.le_of_ble_eq_true rfl)⟩ (Nat.le_of_ble_eq_true rfl) <|
    V_if_eq (tat ok_X9_isActOf_0 (i := 5) (q := 12) rfl rfl) rfl (fun c1 => V_X9_isActOf_54  hr (jx (P := P) kk (if_pos c1))) (fun c1 => V_iload_n (tat ok_X9_isActOf_0 (i := 6) (q := 13) rfl rfl) 1 rfl rfl <|
    V_i2l (tat ok_X9_isActOf_0 (i := 7) (q := 14) rfl rfl) <|
    V_lconst (v := 0) (tat ok_X9_isActOf_0 (i := 8) (q := 15) rfl rfl) rfl <|
    V_iload_n (tat ok_X9_isActOf_0 (i := 9) (q := 16) rfl rfl) 0 rfl rfl <|
    V_if_ne (tat ok_X9_isActOf_0 (i := 10) (q := 19) rfl rfl) rfl (fun c2 => V_iload_n (tat ok_X9_isActOf_0 (i := 16) (q := 27) rfl rfl) 0 rfl rfl <|
    V_iconst (tat ok_X9_isActOf_0 (i := 17) (q := 28) rfl rfl) ic_1 <|
    V_icmp_ne (tat ok_X9_isActOf_0 (i := 18) (q := 31) rfl rfl) rfl (fun c4 => V_iload_n (tat ok_X9_isActOf_0 (i := 24) (q := 39) rfl rfl) 2 rfl rfl <|
    V_iload_n (tat ok_X9_isActOf_0 (i := 25) (q := 40) rfl rfl) 3 rfl rfl <|
    V_iadd (tat ok_X9_isActOf_0 (i := 26) (q := 41) rfl rfl) <|
    V_iconst (tat ok_X9_isActOf_0 (i := 27) (q := 42) rfl rfl) ic_2 <|
    V_isub (tat ok_X9_isActOf_0 (i := 28) (q := 43) rfl rfl) <|
    V_i2l (tat ok_X9_isActOf_0 (i := 29) (q := 44) rfl rfl) <|
    V_X9_isActOf_44  hr (jx (P := P) kk (Eq.trans (if_neg c1) (Eq.trans (if_neg c2) (if_neg c4))))) (fun c4 => V_iload_n (tat ok_X9_isActOf_0 (i := 19) (q := 32) rfl rfl) 3 rfl rfl <|
    V_iconst (tat ok_X9_isActOf_0 (i := 20) (q := 33) rfl rfl) ic_1 <|
    V_isub (tat ok_X9_isActOf_0 (i := 21) (q := 34) rfl rfl) <|
    V_i2l (tat ok_X9_isActOf_0 (i := 22) (q := 35) rfl rfl) <|
    V_goto (tat ok_X9_isActOf_0 (i := 23) (q := 38) rfl rfl) rfl <|
    V_X9_isActOf_44  hr (jx (P := P) kk (Eq.trans (if_neg c1) (Eq.trans (if_neg c2) (if_pos c4)))))) (fun c2 => V_iload_n (tat ok_X9_isActOf_0 (i := 11) (q := 20) rfl rfl) 2 rfl rfl <|
    V_iconst (tat ok_X9_isActOf_0 (i := 12) (q := 21) rfl rfl) ic_1 <|
    V_isub (tat ok_X9_isActOf_0 (i := 13) (q := 22) rfl rfl) <|
    V_i2l (tat ok_X9_isActOf_0 (i := 14) (q := 23) rfl rfl) <|
    V_goto (tat ok_X9_isActOf_0 (i := 15) (q := 26) rfl rfl) rfl <|
    V_X9_isActOf_44  hr (jx (P := P) kk (Eq.trans (if_neg c1) (if_pos c2)))))
theorem ct_X9_isActOf  (I : WI) (L : WL) (a0 : Int32) (a1 : Int32) (a2 : Int32) (a3 : Int32)  : Ct x_X9_isActOf 2 [.int a0, .int a1, .int a2, .int a3] ly0 I L R0 0 0 (some (.int (F_X9_isActOf a0 a1 a2 a3)), ly0, I, L, R0) :=
  Ct_of_V mo_X9_isActOf.1 (Nat.le_of_ble_eq_true rfl) (V_X9_isActOf (P := fun x => x = (F_X9_isActOf a0 a1 a2 a3))  (fun _ e => by rw [e]) rfl)
def F_X9_areActs_75_2 (I : WI) (a2 : Int32) (a3 : Int32) (s0 : Int32) : Option (Int32 ⊕ (Int32 × Int32)) :=
  some (.inr (s0, (a3 + 1)))
theorem V_X9_areActs_75_2  {I : WI} {L : WL} {a2 : Int32} {a3 : Int32} {s0 : Int32} {P : (Int32 ⊕ (Int32 × Int32)) → Prop} {t : Tg} (hs0 : bz s0 = s0) (he : ∀ x : Int32, P (.inl x) → V (zM x_X9_areActs 3 0 0 t) 82 [(0, .ref 33), (1, .int x), (2, .int a2)] [] ly0 I L R0 0 0) (hk : ∀ x : (Int32 × Int32), P (.inr x) → V (zM x_X9_areActs 3 0 0 t) 14 [(0, .ref 33), (1, .int (p1 x)), (2, .int a2), (3, .int (p2 x))] [] ly0 I L R0 0 0) (kk : oP P (F_X9_areActs_75_2 I a2 a3 s0)) : V (zM x_X9_areActs 3 0 0 t) 75 [(0, .ref 33), (2, .int a2), (3, .int a3)] [.int s0] ly0 I L R0 0 0 :=
  V_istore_n (lv' := [(1, .int s0), (0, .ref 33), (2, .int a2), (3, .int a3)]) (tat ok_X9_areActs_1 (i := 9) (q := 76) rfl rfl) rfl (Nat.le_of_ble_eq_true rfl) rfl <|
    V_iinc (v := (a3 + 1)) (lv' := [(3, .int (a3 + 1)), (1, .int s0), (0, .ref 33), (2, .int a2)]) (tat ok_X9_areActs_1 (i := 10) (q := 79) rfl rfl) 3 rfl (ia ic_1) (Nat.le_of_ble_eq_true rfl) rfl <|
    V_goto (tat ok_X9_areActs_1 (i := 11) (q := 82) rfl rfl) rfl <|
    V_pick [2, 1, 3, 0] rfl (hk (s0, (a3 + 1)) (jx (P := oP P) kk rfl))
def F_X9_areActs_74_2 (I : WI) (a2 : Int32) (a3 : Int32) : Option (Int32 ⊕ (Int32 × Int32)) :=
  (F_X9_areActs_75_2 I a2 a3 0)
theorem V_X9_areActs_74_2  {I : WI} {L : WL} {a2 : Int32} {a3 : Int32} {P : (Int32 ⊕ (Int32 × Int32)) → Prop} {t : Tg} (he : ∀ x : Int32, P (.inl x) → V (zM x_X9_areActs 3 0 0 t) 82 [(0, .ref 33), (1, .int x), (2, .int a2)] [] ly0 I L R0 0 0) (hk : ∀ x : (Int32 × Int32), P (.inr x) → V (zM x_X9_areActs 3 0 0 t) 14 [(0, .ref 33), (1, .int (p1 x)), (2, .int a2), (3, .int (p2 x))] [] ly0 I L R0 0 0) (kk : oP P (F_X9_areActs_74_2 I a2 a3)) : V (zM x_X9_areActs 3 0 0 t) 74 [(0, .ref 33), (2, .int a2), (3, .int a3)] [] ly0 I L R0 0 0 :=
  V_iconst (tat ok_X9_areActs_1 (i := 8) (q := 75) rfl rfl) ic_0 <|
    V_X9_areActs_75_2 rfl he hk (jx (P := oP P) kk rfl)
def F_X9_areActs_14_2 (I : WI) (a2 : Int32) (a1 : Int32) (a3 : Int32) : Option (Int32 ⊕ (Int32 × Int32)) :=
  (if (4 * a2) < 0 ∨ 48 ≤ Int32.toNatClampNeg (4 * a2) then none else (if (I 38 (Int32.toNatClampNeg (4 * a2))) < a3 then some (.inl a1) else (if a1 = 0 then (F_X9_areActs_74_2 I a2 a3) else (if ((4 * a2) + a3) < 0 ∨ 48 ≤ Int32.toNatClampNeg ((4 * a2) + a3) then none else (if ((4 * a2) + a3) < 0 ∨ 48 ≤ Int32.toNatClampNeg ((4 * a2) + a3) then none else (if (F_X9_isActOf ((I 38 (Int32.toNatClampNeg ((4 * a2) + a3))) / 20) ((I 38 (Int32.toNatClampNeg ((4 * a2) + a3))) - (I 38 (Int32.toNatClampNeg ((4 * a2) + a3))) / 20 * 20) (I 33 10) (I 33 11)) = 0 then (F_X9_areActs_74_2 I a2 a3) else (F_X9_areActs_75_2 I a2 a3 1)))))))
theorem V_X9_areActs_14_2  {I : WI} {L : WL} {a2 : Int32} {a1 : Int32} {a3 : Int32} {P : (Int32 ⊕ (Int32 × Int32)) → Prop} {t : Tg} (he : ∀ x : Int32, P (.inl x) → V (zM x_X9_areActs 3 0 0 t) 82 [(0, .ref 33), (1, .int x), (2, .int a2)] [] ly0 I L R0 0 0) (hk : ∀ x : (Int32 × Int32), P (.inr x) → V (zM x_X9_areActs 3 0 0 t) 14 [(0, .ref 33), (1, .int (p1 x)), (2, .int a2), (3, .int (p2 x))] [] ly0 I L R0 0 0) (kk : oP P (F_X9_areActs_14_2 I a2 a1 a3)) : V (zM x_X9_areActs 3 0 0 t) 14 [(0, .ref 33), (1, .int a1), (2, .int a2), (3, .int a3)] [] ly0 I L R0 0 0 :=
  V_iload_n (tat ok_X9_areActs_0 (i := 10) (q := 15) rfl rfl) 3 rfl rfl <|
    V_aload_n (tat ok_X9_areActs_0 (i := 11) (q := 16) rfl rfl) 0 rfl rfl <|
    V_getR (tat ok_X9_areActs_0 (i := 12) (q := 19) rfl rfl) fk_X9_23 rfl rfl <|
    V_iconst (tat ok_X9_areActs_0 (i := 13) (q := 20) rfl rfl) ic_4 <|
    V_iload_n (tat ok_X9_areActs_0 (i := 14) (q := 21) rfl rfl) 2 rfl rfl <|
    V_imul (tat ok_X9_areActs_0 (i := 15) (q := 22) rfl rfl) <|
    (if c1 : (4 * a2) < 0 ∨ 48 ≤ Int32.toNatClampNeg (4 * a2) then ((jx (P := oP P) kk (if_pos c1))).elim else V_iald (tat ok_X9_areActs_0 (i := 16) (q := 23) rfl rfl) rfl c1 <|
    V_icmp_gt (tat ok_X9_areActs_0 (i := 17) (q := 26) rfl rfl) rfl (fun c2 => V_pick [0, 1, 2] rfl (he a1 (jx (P := oP P) kk (Eq.trans (if_neg c1) (if_pos c2))))) (fun c2 => V_iload_n (tat ok_X9_areActs_0 (i := 18) (q := 27) rfl rfl) 1 rfl rfl <|
    V_if_eq (tat ok_X9_areActs_0 (i := 19) (q := 30) rfl rfl) rfl (fun c3 => V_pick [0, 2, 3] rfl (V_X9_areActs_74_2  he hk (jx (P := oP P) kk (Eq.trans (if_neg c1) (Eq.trans (if_neg c2) (if_pos c3)))))) (fun c3 => V_aload_n (tat ok_X9_areActs_0 (i := 20) (q := 31) rfl rfl) 0 rfl rfl <|
    V_getR (tat ok_X9_areActs_0 (i := 21) (q := 34) rfl rfl) fk_X9_23 rfl rfl <|
    V_iconst (tat ok_X9_areActs_0 (i := 22) (q := 35) rfl rfl) ic_4 <|
    V_iload_n (tat ok_X9_areActs_0 (i := 23) (q := 36) rfl rfl) 2 rfl rfl <|
    V_imul (tat ok_X9_areActs_0 (i := 24) (q := 37) rfl rfl) <|
    V_iload_n (tat ok_X9_areActs_0 (i := 25) (q := 38) rfl rfl) 3 rfl rfl <|
    V_iadd (tat ok_X9_areActs_0 (i := 26) (q := 39) rfl rfl) <|
    (if c4 : ((4 * a2) + a3) < 0 ∨ 48 ≤ Int32.toNatClampNeg ((4 * a2) + a3) then ((jx (P := oP P) kk (Eq.trans (if_neg c1) (Eq.trans (if_neg c2) (Eq.trans (if_neg c3) (if_pos c4)))))).elim else V_iald (tat ok_X9_areActs_0 (i := 27) (q := 40) rfl rfl) rfl c4 <|
    V_bipush (tat ok_X9_areActs_0 (i := 28) (q := 42) rfl rfl) bp_20 <|
    V_idiv (tat ok_X9_areActs_0 (i := 29) (q := 43) rfl rfl) (by decide) <|
    V_aload_n (tat ok_X9_areActs_0 (i := 30) (q := 44) rfl rfl) 0 rfl rfl <|
    V_getR (tat ok_X9_areActs_0 (i := 31) (q := 47) rfl rfl) fk_X9_23 rfl rfl <|
    V_iconst (tat ok_X9_areActs_0 (i := 32) (q := 48) rfl rfl) ic_4 <|
    V_iload_n (tat ok_X9_areActs_0 (i := 33) (q := 49) rfl rfl) 2 rfl rfl <|
    V_imul (tat ok_X9_areActs_0 (i := 34) (q := 50) rfl rfl) <|
    V_iload_n (tat ok_X9_areActs_0 (i := 35) (q := 51) rfl rfl) 3 rfl rfl <|
    V_iadd (tat ok_X9_areActs_0 (i := 36) (q := 52) rfl rfl) <|
    (if c5 : ((4 * a2) + a3) < 0 ∨ 48 ≤ Int32.toNatClampNeg ((4 * a2) + a3) then ((jx (P := oP P) kk (Eq.trans (if_neg c1) (Eq.trans (if_neg c2) (Eq.trans (if_neg c3) (Eq.trans (if_neg c4) (if_pos c5))))))).elim else V_iald (tat ok_X9_areActs_0 (i := 37) (q := 53) rfl rfl) rfl c5 <|
    V_bipush (tat ok_X9_areActs_0 (i := 38) (q := 55) rfl rfl) bp_20 <|
    V_irem (tat ok_X9_areActs_0 (i := 39) (q := 56) rfl rfl) (by decide) <|
    V_aload_n (tat ok_X9_areActs_1 (i := 0) (q := 57) rfl rfl) 0 rfl rfl <|
    V_getI (tat ok_X9_areActs_1 (i := 1) (q := 60) rfl rfl) fk_X9_50 rfl <|
    V_aload_n (tat ok_X9_areActs_1 (i := 2) (q := 61) rfl rfl) 0 rfl rfl <|
    V_getI (tat ok_X9_areActs_1 (i := 3) (q := 64) rfl rfl) fk_X9_54 rfl <|
    V_cs4 (ct_X9_isActOf I L ((I 38 (Int32.toNatClampNeg ((4 * a2) + a3))) / 20) ((I 38 (Int32.toNatClampNeg ((4 * a2) + a3))) - (I 38 (Int32.toNatClampNeg ((4 * a2) + a3))) / 20 * 20) (I 33 10) (I 33 11) ) mo_X9_isActOf (tat ok_X9_areActs_1 (i := 4) (q := 67) rfl rfl) ml_X9_191 ⟨(Nat.le_of_ble_eq_true rfl), (Nat.le_of_ble_eq_true rfl)⟩ ⟨(Nat.le_of_ble_eq_true rfl), (Nat.le_of_ble_eq_true rfl)⟩ (Nat.le_of_ble_eq_true rfl) <|
    V_if_eq (tat ok_X9_areActs_1 (i := 5) (q := 70) rfl rfl) rfl (fun c6 => V_pick [0, 2, 3] rfl (V_X9_areActs_74_2  he hk (jx (P := oP P) kk (Eq.trans (if_neg c1) (Eq.trans (if_neg c2) (Eq.trans (if_neg c3) (Eq.trans (if_neg c4) (Eq.trans (if_neg c5) (if_pos c6))))))))) (fun c6 => V_iconst (tat ok_X9_areActs_1 (i := 6) (q := 71) rfl rfl) ic_1 <|
    V_goto (tat ok_X9_areActs_1 (i := 7) (q := 74) rfl rfl) rfl <|
    V_pick [0, 2, 3] rfl (V_X9_areActs_75_2 rfl he hk (jx (P := oP P) kk (Eq.trans (if_neg c1) (Eq.trans (if_neg c2) (Eq.trans (if_neg c3) (Eq.trans (if_neg c4) (Eq.trans (if_neg c5) (if_neg c6))))))))))))))
