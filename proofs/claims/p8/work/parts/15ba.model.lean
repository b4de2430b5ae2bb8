def F_X9_next_217 (I : WI) : Option WI :=
  (if 2 < ((I 33 22) - (I 33 23)) then (F_X9_next_236 I 0) else (F_X9_next_236 I 1))
theorem V_X9_next_217  {I : WI} {L : WL}   {P : WI → Prop} {t : Tg} (hr : ∀ v, P v → t = (none, ly0, v, L, R0)) (kk : oP P (F_X9_next_217 I)) : V (zM x_X9_next 2 0 0 t) 217 [(0, .ref 33)] [] ly0 I L R0 0 0 :=
  V_aload_n (tat ok_X9_next_2 (i := 28) (q := 218) rfl rfl) 0 rfl rfl <|
    V_aload_n (tat ok_X9_next_2 (i := 29) (q := 219) rfl rfl) 0 rfl rfl <|
    V_getI (tat ok_X9_next_2 (i := 30) (q := 222) rfl rfl) fk_X9_110 rfl <|
    V_aload_n (tat ok_X9_next_2 (i := 31) (q := 223) rfl rfl) 0 rfl rfl <|
    V_getI (tat ok_X9_next_2 (i := 32) (q := 226) rfl rfl) fk_X9_104 rfl <|
    V_isub (tat ok_X9_next_2 (i := 33) (q := 227) rfl rfl) <|
    V_iconst (tat ok_X9_next_2 (i := 34) (q := 228) rfl rfl) ic_2 <|
    V_icmp_gt (tat ok_X9_next_2 (i := 35) (q := 231) rfl rfl) rfl (fun c13 => V_iconst (tat ok_X9_next_2 (i := 38) (q := 236) rfl rfl) ic_0 <|
    V_X9_next_236 rfl hr (jx (P := oP P) kk (if_pos c13))) (fun c13 => V_iconst (tat ok_X9_next_2 (i := 36) (q := 232) rfl rfl) ic_1 <|
    V_goto (tat ok_X9_next_2 (i := 37) (q := 235) rfl rfl) rfl <|
    V_X9_next_236 rfl hr (jx (P := oP P) kk (if_neg c13)))
def F_X9_next_140 (I : WI) : Option WI :=
  (lpp (fun x => (F_X9_next_140_2 x)) 4294967296 I).bind (fun q => (F_X9_next_217 q))
theorem V_X9_next_140  {I : WI} {L : WL}   {P : WI → Prop} {t : Tg} (hr : ∀ v, P v → t = (none, ly0, v, L, R0)) (kk : oP P (F_X9_next_140 I)) : V (zM x_X9_next 2 0 0 t) 140 [(0, .ref 33)] [] ly0 I L R0 0 0 :=
  V_lpp (fun x => (F_X9_next_140_2 x)) (fun x => V (zM x_X9_next 2 0 0 t) 140 [(0, .ref 33)] [] ly0 x L R0 0 0) (fun x => oP P ((F_X9_next_217 x))) (s := I) (fun x e0 => V_X9_next_140_2 (P := Sum.elim (fun x => oP P ((F_X9_next_217 x))) (fun x => V (zM x_X9_next 2 0 0 t) 140 [(0, .ref 33)] [] ly0 x L R0 0 0))  (fun x e => V_X9_next_217  hr e) (fun _ e => e) e0) (oP_bind (f := fun q => _) kk)
def F_X9_next_82_3 (I : WI) : Option (WI ⊕ WI) :=
  (Option.bind (F_X9_look I (I 33 22)) (fun v14 => (if (F_X9_in (Int32.toInt64 v14) 97 122) = 0 then some (.inl I) else some (.inr (u2 I 33 22 ((I 33 22) + 1))))))
theorem V_X9_next_82_3  {I : WI} {L : WL}   {P : (WI ⊕ WI) → Prop} {t : Tg} (he : ∀ x : WI, P (.inl x) → V (zM x_X9_next 2 0 0 t) 274 [(0, .ref 33)] [] ly0 x L R0 0 0) (hk : ∀ x : WI, P (.inr x) → V (zM x_X9_next 2 0 0 t) 82 [(0, .ref 33)] [] ly0 x L R0 0 0) (kk : oP P (F_X9_next_82_3 I)) : V (zM x_X9_next 2 0 0 t) 82 [(0, .ref 33)] [] ly0 I L R0 0 0 :=
  V_aload_n (tat ok_X9_next_1 (i := 1) (q := 83) rfl rfl) 0 rfl rfl <|
    V_aload_n (tat ok_X9_next_1 (i := 2) (q := 84) rfl rfl) 0 rfl rfl <|
    V_getI (tat ok_X9_next_1 (i := 3) (q := 87) rfl rfl) fk_X9_110 rfl <|
    oP_case (jx (P := oP P) kk rfl) (fun v14 e14 _ => V_cv1 (ct_X9_look I L (I 33 22)  e14) mo_X9_look (tat ok_X9_next_1 (i := 4) (q := 90) rfl rfl) ml_X9_113 rfl ⟨by decide, _, rfl, rfl⟩ ⟨(Nat.le_of_ble_eq_true rfl), (Nat.le_of_ble_eq_true rfl)⟩ ⟨(Nat.le_of_ble_eq_true rfl), (Nat.le_of_ble_eq_true rfl)⟩ (Nat.le_of_ble_eq_true rfl) <|
    V_i2l (tat ok_X9_next_1 (i := 5) (q := 91) rfl rfl) <|
    V_ldc2 (tat ok_X9_next_1 (i := 6) (q := 94) rfl rfl) (gw_in kl_X9_127 rfl) <|
    V_ldc2 (tat ok_X9_next_1 (i := 7) (q := 97) rfl rfl) (gw_in kl_X9_129 rfl) <|
    V_cs3 (ct_X9_in I L (Int32.toInt64 v14) 97 122 ) mo_X9_in (tat ok_X9_next_1 (i := 8) (q := 100) rfl rfl) ml_X9_97 ⟨(Nat.le_of_ble_eq_true rfl), (Nat.le_of_ble_eq_true rfl)⟩ ⟨(Nat.le_of_ble_eq_true rfl), (Nat.le_of_ble_eq_true rfl)⟩ (Nat.le_of_ble_eq_true rfl) <|
    V_if_eq (tat ok_X9_next_1 (i := 9) (q := 103) rfl rfl) rfl (fun c15 => he I (jx (P := oP P) kk (Eq.trans (ob e14) (if_pos c15)))) (fun c15 => V_aload_n (tat ok_X9_next_1 (i := 10) (q := 104) rfl rfl) 0 rfl rfl <|
    V_dup (tat ok_X9_next_1 (i := 11) (q := 105) rfl rfl) rfl <|
    V_getI (tat ok_X9_next_1 (i := 12) (q := 108) rfl rfl) fk_X9_110 rfl <|
    V_iconst (tat ok_X9_next_1 (i := 13) (q := 109) rfl rfl) ic_1 <|
    V_iadd (tat ok_X9_next_1 (i := 14) (q := 110) rfl rfl) <|
    V_putI (tat ok_X9_next_1 (i := 15) (q := 113) rfl rfl) fk_X9_110 rfl rfl <|
    V_goto (tat ok_X9_next_1 (i := 16) (q := 116) rfl rfl) rfl <|
    hk (u2 I 33 22 ((I 33 22) + 1)) (jx (P := oP P) kk (Eq.trans (ob e14) (if_neg c15)))))
def F_X9_next_82 (I : WI) : Option WI :=
  (lpp (fun x => (F_X9_next_82_3 x)) 4294967296 I).bind (fun q => (F_X9_next_274 q))
theorem V_X9_next_82  {I : WI} {L : WL}   {P : WI → Prop} {t : Tg} (hr : ∀ v, P v → t = (none, ly0, v, L, R0)) (kk : oP P (F_X9_next_82 I)) : V (zM x_X9_next 2 0 0 t) 82 [(0, .ref 33)] [] ly0 I L R0 0 0 :=
  V_lpp (fun x => (F_X9_next_82_3 x)) (fun x => V (zM x_X9_next 2 0 0 t) 82 [(0, .ref 33)] [] ly0 x L R0 0 0) (fun x => oP P ((F_X9_next_274 x))) (s := I) (fun x e0 => V_X9_next_82_3 (P := Sum.elim (fun x => oP P ((F_X9_next_274 x))) (fun x => V (zM x_X9_next 2 0 0 t) 82 [(0, .ref 33)] [] ly0 x L R0 0 0))  (fun x e => V_X9_next_274  hr e) (fun _ e => e) e0) (oP_bind (f := fun q => _) kk)
def F_X9_next_34 (I : WI) : Option WI :=
  (Option.bind (F_X9_look (u2 I 33 23 (I 33 22)) ((u2 I 33 23 (I 33 22)) 33 22)) (fun v4 => (if 0 ≤ v4 then (if (F_X9_in (Int32.toInt64 v4) 97 122) = 0 then (if (F_X9_in (Int32.toInt64 v4) 48 57) = 0 then (if v4 = 59 then (F_X9_next_260 (u2 (u2 I 33 23 (I 33 22)) 33 24 3) 1) else (F_X9_next_260 (u2 (u2 I 33 23 (I 33 22)) 33 24 3) 0)) else (F_X9_next_140 (u2 (u2 (u2 I 33 23 (I 33 22)) 33 24 2) 33 25 0))) else (F_X9_next_82 (u2 (u2 I 33 23 (I 33 22)) 33 24 1))) else (F_X9_next_274 (u2 (u2 I 33 23 (I 33 22)) 33 24 0)))))
theorem V_X9_next_34  {I : WI} {L : WL}   {P : WI → Prop} {t : Tg} (hr : ∀ v, P v → t = (none, ly0, v, L, R0)) (kk : oP P (F_X9_next_34 I)) : V (zM x_X9_next 2 0 0 t) 34 [(0, .ref 33)] [] ly0 I L R0 0 0 :=
  V_aload_n (tat ok_X9_next_0 (i := 17) (q := 35) rfl rfl) 0 rfl rfl <|
    V_aload_n (tat ok_X9_next_0 (i := 18) (q := 36) rfl rfl) 0 rfl rfl <|
    V_getI (tat ok_X9_next_0 (i := 19) (q := 39) rfl rfl) fk_X9_110 rfl <|
    V_putI (tat ok_X9_next_0 (i := 20) (q := 42) rfl rfl) fk_X9_104 rfl rfl <|
    V_aload_n (tat ok_X9_next_0 (i := 21) (q := 43) rfl rfl) 0 rfl rfl <|
    V_aload_n (tat ok_X9_next_0 (i := 22) (q := 44) rfl rfl) 0 rfl rfl <|
    V_getI (tat ok_X9_next_0 (i := 23) (q := 47) rfl rfl) fk_X9_110 rfl <|
    oP_case (jx (P := oP P) kk rfl) (fun v4 e4 _ => V_cv1 (ct_X9_look (u2 I 33 23 (I 33 22)) L ((u2 I 33 23 (I 33 22)) 33 22)  e4) mo_X9_look (tat ok_X9_next_0 (i := 24) (q := 50) rfl rfl) ml_X9_113 rfl ⟨by decide, _, rfl, rfl⟩ ⟨(Nat.le_of_ble_eq_true rfl), (Nat.le_of_ble_eq_true rfl)⟩ ⟨(Nat.le_of_ble_eq_true rfl), (Nat.le_of_ble_eq_true rfl)⟩ (Nat.le_of_ble_eq_true rfl) <|
    V_istore_n (lv' := [(1, .int v4), (0, .ref 33)]) (tat ok_X9_next_0 (i := 25) (q := 51) rfl rfl) rfl (Nat.le_of_ble_eq_true rfl) rfl <|
    V_iload_n (tat ok_X9_next_0 (i := 26) (q := 52) rfl rfl) 0 rfl rfl <|
    V_if_ge (tat ok_X9_next_0 (i := 27) (q := 55) rfl rfl) rfl (fun c5 => V_iload_n (tat ok_X9_next_0 (i := 32) (q := 64) rfl rfl) 0 rfl rfl <|
    V_i2l (tat ok_X9_next_0 (i := 33) (q := 65) rfl rfl) <|
    V_ldc2 (tat ok_X9_next_0 (i := 34) (q := 68) rfl rfl) (gw_in kl_X9_127 rfl) <|
    V_ldc2 (tat ok_X9_next_0 (i := 35) (q := 71) rfl rfl) (gw_in kl_X9_129 rfl) <|
    V_cs3 (ct_X9_in (u2 I 33 23 (I 33 22)) L (Int32.toInt64 v4) 97 122 ) mo_X9_in (tat ok_X9_next_0 (i := 36) (q := 74) rfl rfl) ml_X9_97 ⟨(Nat.le_of_ble_eq_true rfl), (Nat.le_of_ble_eq_true rfl)⟩ ⟨(Nat.le_of_ble_eq_true rfl), (Nat.le_of_ble_eq_true rfl)⟩ (Nat.le_of_ble_eq_true rfl) <|
    V_if_eq (tat ok_X9_next_0 (i := 37) (q := 77) rfl rfl) rfl (fun c6 => V_iload_n (tat ok_X9_next_1 (i := 17) (q := 117) rfl rfl) 0 rfl rfl <|
    V_i2l (tat ok_X9_next_1 (i := 18) (q := 118) rfl rfl) <|
    V_ldc2 (tat ok_X9_next_1 (i := 19) (q := 121) rfl rfl) (gw_in kl_X9_131 rfl) <|
    V_ldc2 (tat ok_X9_next_1 (i := 20) (q := 124) rfl rfl) (gw_in kl_X9_133 rfl) <|
    V_cs3 (ct_X9_in (u2 I 33 23 (I 33 22)) L (Int32.toInt64 v4) 48 57 ) mo_X9_in (tat ok_X9_next_1 (i := 21) (q := 127) rfl rfl) ml_X9_97 ⟨(Nat.le_of_ble_eq_true rfl), (Nat.le_of_ble_eq_true rfl)⟩ ⟨(Nat.le_of_ble_eq_true rfl), (Nat.le_of_ble_eq_true rfl)⟩ (Nat.le_of_ble_eq_true rfl) <|
    V_if_eq (tat ok_X9_next_1 (i := 22) (q := 130) rfl rfl) rfl (fun c7 => V_aload_n (tat ok_X9_next_3 (i := 2) (q := 244) rfl rfl) 1 rfl rfl <|
    V_iconst (tat ok_X9_next_3 (i := 3) (q := 245) rfl rfl) ic_3 <|
    V_putI (tat ok_X9_next_3 (i := 4) (q := 248) rfl rfl) fk_X9_124 rfl rfl <|
    V_aload_n (tat ok_X9_next_3 (i := 5) (q := 249) rfl rfl) 1 rfl rfl <|
    V_iload_n (tat ok_X9_next_3 (i := 6) (q := 250) rfl rfl) 0 rfl rfl <|
    V_bipush (tat ok_X9_next_3 (i := 7) (q := 252) rfl rfl) bp_59 <|
    V_icmp_ne (tat ok_X9_next_3 (i := 8) (q := 255) rfl rfl) rfl (fun c8 => V_iconst (tat ok_X9_next_3 (i := 11) (q := 260) rfl rfl) ic_0 <|
    V_pick [1] rfl (V_X9_next_260 rfl hr (jx (P := oP P) kk (Eq.trans (ob e4) (Eq.trans (if_pos c5) (Eq.trans (if_pos c6) (Eq.trans (if_pos c7) (if_neg c8)))))))) (fun c8 => V_iconst (tat ok_X9_next_3 (i := 9) (q := 256) rfl rfl) ic_1 <|
    V_goto (tat ok_X9_next_3 (i := 10) (q := 259) rfl rfl) rfl <|
    V_pick [1] rfl (V_X9_next_260 rfl hr (jx (P := oP P) kk (Eq.trans (ob e4) (Eq.trans (if_pos c5) (Eq.trans (if_pos c6) (Eq.trans (if_pos c7) (if_pos c8))))))))) (fun c7 => V_aload_n (tat ok_X9_next_1 (i := 23) (q := 131) rfl rfl) 1 rfl rfl <|
    V_iconst (tat ok_X9_next_1 (i := 24) (q := 132) rfl rfl) ic_2 <|
    V_putI (tat ok_X9_next_1 (i := 25) (q := 135) rfl rfl) fk_X9_124 rfl rfl <|
    V_aload_n (tat ok_X9_next_1 (i := 26) (q := 136) rfl rfl) 1 rfl rfl <|
    V_iconst (tat ok_X9_next_1 (i := 27) (q := 137) rfl rfl) ic_0 <|
    V_putI (tat ok_X9_next_1 (i := 28) (q := 140) rfl rfl) fk_X9_135 rfl rfl <|
    V_pick [1] rfl (V_X9_next_140  hr (jx (P := oP P) kk (Eq.trans (ob e4) (Eq.trans (if_pos c5) (Eq.trans (if_pos c6) (if_neg c7)))))))) (fun c6 => V_aload_n (tat ok_X9_next_0 (i := 38) (q := 78) rfl rfl) 1 rfl rfl <|
    V_iconst (tat ok_X9_next_0 (i := 39) (q := 79) rfl rfl) ic_1 <|
    V_putI (tat ok_X9_next_1 (i := 0) (q := 82) rfl rfl) fk_X9_124 rfl rfl <|
    V_pick [1] rfl (V_X9_next_82  hr (jx (P := oP P) kk (Eq.trans (ob e4) (Eq.trans (if_pos c5) (if_neg c6))))))) (fun c5 => V_aload_n (tat ok_X9_next_0 (i := 28) (q := 56) rfl rfl) 1 rfl rfl <|
    V_iconst (tat ok_X9_next_0 (i := 29) (q := 57) rfl rfl) ic_0 <|
    V_putI (tat ok_X9_next_0 (i := 30) (q := 60) rfl rfl) fk_X9_124 rfl rfl <|
    V_goto (tat ok_X9_next_0 (i := 31) (q := 63) rfl rfl) rfl <|
    V_pick [1] rfl (V_X9_next_274  hr (jx (P := oP P) kk (Eq.trans (ob e4) (if_neg c5))))))
def F_X9_next_8 (I : WI) : Option WI :=
  (lpp (fun x => (F_X9_next_8_1 x)) 4294967296 I).bind (fun q => (F_X9_next_34 q))
theorem V_X9_next_8  {I : WI} {L : WL}   {P : WI → Prop} {t : Tg} (hr : ∀ v, P v → t = (none, ly0, v, L, R0)) (kk : oP P (F_X9_next_8 I)) : V (zM x_X9_next 2 0 0 t) 8 [(0, .ref 33)] [] ly0 I L R0 0 0 :=
  V_lpp (fun x => (F_X9_next_8_1 x)) (fun x => V (zM x_X9_next 2 0 0 t) 8 [(0, .ref 33)] [] ly0 x L R0 0 0) (fun x => oP P ((F_X9_next_34 x))) (s := I) (fun x e0 => V_X9_next_8_1 (P := Sum.elim (fun x => oP P ((F_X9_next_34 x))) (fun x => V (zM x_X9_next 2 0 0 t) 8 [(0, .ref 33)] [] ly0 x L R0 0 0))  (fun x e => V_X9_next_34  hr e) (fun _ e => e) e0) (oP_bind (f := fun q => _) kk)
def F_X9_next (I : WI) : Option WI :=
  (if (I 33 26) ≤ 0 then (F_X9_next_8 I) else some I)
theorem V_X9_next  {I : WI} {L : WL}   {P : WI → Prop} {t : Tg} (hr : ∀ v, P v → t = (none, ly0, v, L, R0)) (kk : oP P (F_X9_next I)) : V (zM x_X9_next 2 0 0 t) 0 [(0, .ref 33)] [] ly0 I L R0 0 0 :=
  V_aload_n (tat ok_X9_next_0 (i := 0) (q := 1) rfl rfl) 0 rfl rfl <|
    V_getI (tat ok_X9_next_0 (i := 1) (q := 4) rfl rfl) fk_X9_101 rfl <|
    V_if_le (tat ok_X9_next_0 (i := 2) (q := 7) rfl rfl) rfl (fun c1 => V_X9_next_8  hr (jx (P := oP P) kk (if_pos c1))) (fun c1 => V_vret (tat ok_X9_next_0 (i := 3) (q := 8) rfl rfl) rfl (hr I (jx (P := oP P) kk (if_neg c1))) ⟨(Nat.le_of_ble_eq_true rfl), (Nat.le_of_ble_eq_true rfl)⟩)
theorem ct_X9_next  (I : WI) (L : WL)  {v : WI} (h : (F_X9_next I) = some v) : Ct x_X9_next 2 [.ref 33] ly0 I L R0 0 0 (none, ly0, v, L, R0) :=
  Ct_of_V mo_X9_next.1 (Nat.le_of_ble_eq_true rfl) (V_X9_next (P := fun x => x = v)  (fun _ e => by rw [e]) (by rw [h]; exact rfl))
def F_X9_readRows_148_2 (I : WI) (L : WL) (a2 : Int32) (a3 : Int32) (s0 : Int64) (s1 : Int64) : Option WL :=
  some (u2 L 33 30 (s1 ||| s0))
theorem V_X9_readRows_148_2  {I : WI} {L : WL} {a2 : Int32} {a3 : Int32} {s0 : Int64} {s1 : Int64} {P : WL → Prop} {t : Tg} (hk : ∀ x : WL, P x → V (zM x_X9_readRows 3 0 0 t) 111 [(0, .ref 33), (2, .int a2), (3, .int (a3 + 1))] [] ly0 I x R0 0 0) (kk : oP P (F_X9_readRows_148_2 I L a2 a3 s0 s1)) : V (zM x_X9_readRows 3 0 0 t) 148 [(0, .ref 33), (2, .int a2), (3, .int a3)] [.long s0, .long s1, .ref 33] ly0 I L R0 0 0 :=
  V_lor (tat ok_X9_readRows_2 (i := 1) (q := 149) rfl rfl) <|
    V_putL (tat ok_X9_readRows_2 (i := 2) (q := 152) rfl rfl) fk_X9_148 rfl rfl <|
    V_iinc (v := (a3 + 1)) (lv' := [(3, .int (a3 + 1)), (0, .ref 33), (2, .int a2)]) (tat ok_X9_readRows_2 (i := 3) (q := 155) rfl rfl) 2 rfl (ia ic_1) (Nat.le_of_ble_eq_true rfl) rfl <|
    V_goto (tat ok_X9_readRows_2 (i := 4) (q := 158) rfl rfl) rfl <|
    V_pick [1, 2, 0] rfl (hk (u2 L 33 30 (s1 ||| s0)) (jx (P := oP P) kk rfl))
def F_X9_readRows_116_2 (I : WI) (L : WL) (a2 : Int32) (a3 : Int32) : Option WL :=
  (Option.bind (F_X9_look I ((I 33 23) + a3)) (fun v7 => (if v7 = 100 then (F_X9_readRows_148_2 I L a2 a3 (F_X9_bitOf (I 33 28) a3) (L 33 30)) else (F_X9_readRows_148_2 I L a2 a3 0 (L 33 30)))))
theorem V_X9_readRows_116_2  {I : WI} {L : WL} {a2 : Int32} {a3 : Int32}  {P : WL → Prop} {t : Tg} (hk : ∀ x : WL, P x → V (zM x_X9_readRows 3 0 0 t) 111 [(0, .ref 33), (2, .int a2), (3, .int (a3 + 1))] [] ly0 I x R0 0 0) (kk : oP P (F_X9_readRows_116_2 I L a2 a3)) : V (zM x_X9_readRows 3 0 0 t) 116 [(0, .ref 33), (2, .int a2), (3, .int a3)] [] ly0 I L R0 0 0 :=
  V_aload_n (tat ok_X9_readRows_1 (i := 24) (q := 117) rfl rfl) 0 rfl rfl <|
    V_dup (tat ok_X9_readRows_1 (i := 25) (q := 118) rfl rfl) rfl <|
    V_getL (tat ok_X9_readRows_1 (i := 26) (q := 121) rfl rfl) fk_X9_148 rfl <|
    V_aload_n (tat ok_X9_readRows_1 (i := 27) (q := 122) rfl rfl) 0 rfl rfl <|
    V_aload_n (tat ok_X9_readRows_1 (i := 28) (q := 123) rfl rfl) 0 rfl rfl <|
    V_getI (tat ok_X9_readRows_1 (i := 29) (q := 126) rfl rfl) fk_X9_104 rfl <|
    V_iload_n (tat ok_X9_readRows_1 (i := 30) (q := 127) rfl rfl) 2 rfl rfl <|
    V_iadd (tat ok_X9_readRows_1 (i := 31) (q := 128) rfl rfl) <|
    oP_case (jx (P := oP P) kk rfl) (fun v7 e7 _ => V_cv1 (ct_X9_look I L ((I 33 23) + a3)  e7) mo_X9_look (tat ok_X9_readRows_1 (i := 32) (q := 131) rfl rfl) ml_X9_113 rfl ⟨by decide, _, rfl, rfl⟩ ⟨(Nat.le_of_ble_eq_true rfl), (Nat.le_of_ble_eq_true rfl)⟩ ⟨(Nat.le_of_ble_eq_true rfl), (Nat.le_of_ble_eq_true rfl)⟩ (Nat.le_of_ble_eq_true rfl) <|
    V_bipush (tat ok_X9_readRows_1 (i := 33) (q := 133) rfl rfl) bp_100 <|
    V_icmp_ne (tat ok_X9_readRows_1 (i := 34) (q := 136) rfl rfl) rfl (fun c8 => V_lconst (v := 0) (tat ok_X9_readRows_2 (i := 0) (q := 148) rfl rfl) rfl <|
    V_X9_readRows_148_2  hk (jx (P := oP P) kk (Eq.trans (ob e7) (if_neg c8)))) (fun c8 => V_aload_n (tat ok_X9_readRows_1 (i := 35) (q := 137) rfl rfl) 0 rfl rfl <|
    V_getI (tat ok_X9_readRows_1 (i := 36) (q := 140) rfl rfl) fk_X9_142 rfl <|
    V_iload_n (tat ok_X9_readRows_1 (i := 37) (q := 141) rfl rfl) 2 rfl rfl <|
    V_cs2 (ct_X9_bitOf I L (I 33 28) a3 ) mo_X9_bitOf (tat ok_X9_readRows_1 (i := 38) (q := 144) rfl rfl) ml_X9_155 ⟨(Nat.le_of_ble_eq_true rfl), (Nat.le_of_ble_eq_true rfl)⟩ ⟨(Nat.le_of_ble_eq_true rfl), (Nat.le_of_ble_eq_true rfl)⟩ (Nat.le_of_ble_eq_true rfl) <|
    V_goto (tat ok_X9_readRows_1 (i := 39) (q := 147) rfl rfl) rfl <|
    V_X9_readRows_148_2  hk (jx (P := oP P) kk (Eq.trans (ob e7) (if_pos c8)))))
