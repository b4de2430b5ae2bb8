def F_X9_readRows_185_1 (I : WI) (L : WL)  (s0 : Int32) : Option ((WI × WL) ⊕ (Int32 × WI × WL)) :=
  some (.inr (s0, I, L))
theorem V_X9_readRows_185_1  {I : WI} {L : WL}  {s0 : Int32} {P : ((WI × WL) ⊕ (Int32 × WI × WL)) → Prop} {t : Tg} (hs0 : bz s0 = s0) (he : ∀ x : (WI × WL), P (.inl x) → V (zM x_X9_readRows 3 0 0 t) 189 [(0, .ref 33)] [] ly0 (p1 x) (p2 x) R0 0 0) (hk : ∀ x : (Int32 × WI × WL), P (.inr x) → V (zM x_X9_readRows 3 0 0 t) 17 [(0, .ref 33), (1, .int (p1 x))] [] ly0 (p1 (p2 x)) (p2 (p2 x)) R0 0 0) (kk : oP P (F_X9_readRows_185_1 I L s0)) : V (zM x_X9_readRows 3 0 0 t) 185 [(0, .ref 33)] [.int s0] ly0 I L R0 0 0 :=
  V_istore_n (lv' := [(1, .int s0), (0, .ref 33)]) (tat ok_X9_readRows_2 (i := 20) (q := 186) rfl rfl) rfl (Nat.le_of_ble_eq_true rfl) rfl <|
    V_goto (tat ok_X9_readRows_2 (i := 21) (q := 189) rfl rfl) rfl <|
    V_pick [1, 0] rfl (hk (s0, I, L) (jx (P := oP P) kk rfl))
def F_X9_readRows_168_1 (I : WI) (L : WL) : Option ((WI × WL) ⊕ (Int32 × WI × WL)) :=
  (Option.bind (F_X9_next I) (fun v9 => (if (v9 33 24) = 1 then (F_X9_readRows_185_1 v9 L 1) else (F_X9_readRows_185_1 v9 L 0))))
theorem V_X9_readRows_168_1  {I : WI} {L : WL}   {P : ((WI × WL) ⊕ (Int32 × WI × WL)) → Prop} {t : Tg} (he : ∀ x : (WI × WL), P (.inl x) → V (zM x_X9_readRows 3 0 0 t) 189 [(0, .ref 33)] [] ly0 (p1 x) (p2 x) R0 0 0) (hk : ∀ x : (Int32 × WI × WL), P (.inr x) → V (zM x_X9_readRows 3 0 0 t) 17 [(0, .ref 33), (1, .int (p1 x))] [] ly0 (p1 (p2 x)) (p2 (p2 x)) R0 0 0) (kk : oP P (F_X9_readRows_168_1 I L)) : V (zM x_X9_readRows 3 0 0 t) 168 [(0, .ref 33)] [] ly0 I L R0 0 0 :=
  V_aload_n (tat ok_X9_readRows_2 (i := 11) (q := 169) rfl rfl) 0 rfl rfl <|
    oP_case (jx (P := oP P) kk rfl) (fun v9 e9 _ => V_cv0v (ct_X9_next I L   e9) mo_X9_next (tat ok_X9_readRows_2 (i := 12) (q := 172) rfl rfl) ml_X9_159 rfl ⟨by decide, _, rfl, rfl⟩ ⟨(Nat.le_of_ble_eq_true rfl), (Nat.le_of_ble_eq_true rfl)⟩ ⟨(Nat.le_of_ble_eq_true rfl), (Nat.le_of_ble_eq_true rfl)⟩ (Nat.le_of_ble_eq_true rfl) <|
    V_aload_n (tat ok_X9_readRows_2 (i := 13) (q := 173) rfl rfl) 0 rfl rfl <|
    V_getI (tat ok_X9_readRows_2 (i := 14) (q := 176) rfl rfl) fk_X9_124 rfl <|
    V_iconst (tat ok_X9_readRows_2 (i := 15) (q := 177) rfl rfl) ic_1 <|
    V_icmp_ne (tat ok_X9_readRows_2 (i := 16) (q := 180) rfl rfl) rfl (fun c10 => V_iconst (tat ok_X9_readRows_2 (i := 19) (q := 185) rfl rfl) ic_0 <|
    V_X9_readRows_185_1 rfl he hk (jx (P := oP P) kk (Eq.trans (ob e9) (if_neg c10)))) (fun c10 => V_iconst (tat ok_X9_readRows_2 (i := 17) (q := 181) rfl rfl) ic_1 <|
    V_goto (tat ok_X9_readRows_2 (i := 18) (q := 184) rfl rfl) rfl <|
    V_X9_readRows_185_1 rfl he hk (jx (P := oP P) kk (Eq.trans (ob e9) (if_pos c10)))))
def F_X9_readRows_158_1 (I : WI) (L : WL) : Option ((WI × WL) ⊕ (Int32 × WI × WL)) :=
  (F_X9_readRows_168_1 (u2 I 33 28 ((I 33 28) + 1)) L)
theorem V_X9_readRows_158_1  {I : WI} {L : WL}   {P : ((WI × WL) ⊕ (Int32 × WI × WL)) → Prop} {t : Tg} (he : ∀ x : (WI × WL), P (.inl x) → V (zM x_X9_readRows 3 0 0 t) 189 [(0, .ref 33)] [] ly0 (p1 x) (p2 x) R0 0 0) (hk : ∀ x : (Int32 × WI × WL), P (.inr x) → V (zM x_X9_readRows 3 0 0 t) 17 [(0, .ref 33), (1, .int (p1 x))] [] ly0 (p1 (p2 x)) (p2 (p2 x)) R0 0 0) (kk : oP P (F_X9_readRows_158_1 I L)) : V (zM x_X9_readRows 3 0 0 t) 158 [(0, .ref 33)] [] ly0 I L R0 0 0 :=
  V_aload_n (tat ok_X9_readRows_2 (i := 5) (q := 159) rfl rfl) 0 rfl rfl <|
    V_dup (tat ok_X9_readRows_2 (i := 6) (q := 160) rfl rfl) rfl <|
    V_getI (tat ok_X9_readRows_2 (i := 7) (q := 163) rfl rfl) fk_X9_142 rfl <|
    V_iconst (tat ok_X9_readRows_2 (i := 8) (q := 164) rfl rfl) ic_1 <|
    V_iadd (tat ok_X9_readRows_2 (i := 9) (q := 165) rfl rfl) <|
    V_putI (tat ok_X9_readRows_2 (i := 10) (q := 168) rfl rfl) fk_X9_142 rfl rfl <|
    V_X9_readRows_168_1  he hk (jx (P := oP P) kk rfl)
def F_X9_readRows_111_1 (I : WI) (L : WL)  (a2 : Int32) (a3 : Int32) : Option ((WI × WL) ⊕ (Int32 × WI × WL)) :=
  (frp0 (fun i x => (F_X9_readRows_116_2 I x a2 i)) a2 (fu a3 a2) a3 L).bind (fun q => (F_X9_readRows_158_1 I (p2 q)))
theorem V_X9_readRows_111_1  {I : WI} {L : WL}  {a2 : Int32} {a3 : Int32} {P : ((WI × WL) ⊕ (Int32 × WI × WL)) → Prop} {t : Tg} (hb3 : bz a3 = a3) (he : ∀ x : (WI × WL), P (.inl x) → V (zM x_X9_readRows 3 0 0 t) 189 [(0, .ref 33)] [] ly0 (p1 x) (p2 x) R0 0 0) (hk : ∀ x : (Int32 × WI × WL), P (.inr x) → V (zM x_X9_readRows 3 0 0 t) 17 [(0, .ref 33), (1, .int (p1 x))] [] ly0 (p1 (p2 x)) (p2 (p2 x)) R0 0 0) (kk : oP P (F_X9_readRows_111_1 I L a2 a3)) : V (zM x_X9_readRows 3 0 0 t) 111 [(0, .ref 33), (2, .int a2), (3, .int a3)] [] ly0 I L R0 0 0 :=
  V_frp0 (fun i x => (F_X9_readRows_116_2 I x a2 i)) a2 (fun i x => V (zM x_X9_readRows 3 0 0 t) 111 [(0, .ref 33), (2, .int a2), (3, .int i)] [] ly0 I x R0 0 0) (fun i x => oP P ((F_X9_readRows_158_1 I x))) (c := a3) (s := L) (fun i x kx kb => V_iload_n (tat ok_X9_readRows_1 (i := 21) (q := 112) rfl rfl) 2 rfl rfl <|
    V_iload_n (tat ok_X9_readRows_1 (i := 22) (q := 113) rfl rfl) 1 rfl rfl <|
    V_icmp_ge (tat ok_X9_readRows_1 (i := 23) (q := 116) rfl rfl) rfl (fun c0 => V_pick [0] rfl (V_X9_readRows_158_1  he hk (kx c0))) (fun c0 => V_X9_readRows_116_2 (P := (fun x => (fun i x => V (zM x_X9_readRows 3 0 0 t) 111 [(0, .ref 33), (2, .int a2), (3, .int i)] [] ly0 I x R0 0 0) (i + 1) x))  (fun _ e => e) (kb c0))) (oP_bind (f := fun q => _) kk)
def F_X9_readRows_93_1 (I : WI) (L : WL)  (a2 : Int32) (s0 : Int32) : Option ((WI × WL) ⊕ (Int32 × WI × WL)) :=
  (if ((F_X9_needs I s0 3) 33 26) = 0 then (F_X9_readRows_111_1 (u2 (F_X9_needs I s0 3) 33 29 a2) L a2 0) else (F_X9_readRows_168_1 (F_X9_needs I s0 3) L))
theorem V_X9_readRows_93_1  {I : WI} {L : WL}  {a2 : Int32} {s0 : Int32} {P : ((WI × WL) ⊕ (Int32 × WI × WL)) → Prop} {t : Tg} (hs0 : bz s0 = s0) (he : ∀ x : (WI × WL), P (.inl x) → V (zM x_X9_readRows 3 0 0 t) 189 [(0, .ref 33)] [] ly0 (p1 x) (p2 x) R0 0 0) (hk : ∀ x : (Int32 × WI × WL), P (.inr x) → V (zM x_X9_readRows 3 0 0 t) 17 [(0, .ref 33), (1, .int (p1 x))] [] ly0 (p1 (p2 x)) (p2 (p2 x)) R0 0 0) (kk : oP P (F_X9_readRows_93_1 I L a2 s0)) : V (zM x_X9_readRows 3 0 0 t) 93 [(0, .ref 33), (2, .int a2)] [.int s0, .ref 33] ly0 I L R0 0 0 :=
  V_iconst (tat ok_X9_readRows_1 (i := 11) (q := 94) rfl rfl) ic_3 <|
    V_cv2v (ct_X9_needs I L s0 3 ) mo_X9_needs (tat ok_X9_readRows_1 (i := 12) (q := 97) rfl rfl) ml_X9_138 rfl ⟨by decide, _, rfl, rfl⟩ ⟨(Nat.le_of_ble_eq_true rfl), (Nat.le_of_ble_eq_true rfl)⟩ ⟨(Nat.le_of_ble_eq_true rfl), (Nat.le_of_ble_eq_true rfl)⟩ (Nat.le_of_ble_eq_true rfl) <|
    V_aload_n (tat ok_X9_readRows_1 (i := 13) (q := 98) rfl rfl) 0 rfl rfl <|
    V_getI (tat ok_X9_readRows_1 (i := 14) (q := 101) rfl rfl) fk_X9_101 rfl <|
    V_if_ne (tat ok_X9_readRows_1 (i := 15) (q := 104) rfl rfl) rfl (fun c6 => V_pick [0] rfl (V_X9_readRows_168_1  he hk (jx (P := oP P) kk (if_neg c6)))) (fun c6 => V_aload_n (tat ok_X9_readRows_1 (i := 16) (q := 105) rfl rfl) 0 rfl rfl <|
    V_iload_n (tat ok_X9_readRows_1 (i := 17) (q := 106) rfl rfl) 1 rfl rfl <|
    V_putI (tat ok_X9_readRows_1 (i := 18) (q := 109) rfl rfl) fk_X9_145 rfl rfl <|
    V_iconst (tat ok_X9_readRows_1 (i := 19) (q := 110) rfl rfl) ic_0 <|
    V_istore_n (lv' := [(3, .int 0), (0, .ref 33), (2, .int a2)]) (tat ok_X9_readRows_1 (i := 20) (q := 111) rfl rfl) rfl (Nat.le_of_ble_eq_true rfl) rfl <|
    V_pick [1, 2, 0] rfl (V_X9_readRows_111_1 rfl he hk (jx (P := oP P) kk (if_pos c6))))
def F_X9_readRows_92_1 (I : WI) (L : WL)  (a2 : Int32) : Option ((WI × WL) ⊕ (Int32 × WI × WL)) :=
  (F_X9_readRows_93_1 I L a2 0)
theorem V_X9_readRows_92_1  {I : WI} {L : WL}  {a2 : Int32} {P : ((WI × WL) ⊕ (Int32 × WI × WL)) → Prop} {t : Tg} (he : ∀ x : (WI × WL), P (.inl x) → V (zM x_X9_readRows 3 0 0 t) 189 [(0, .ref 33)] [] ly0 (p1 x) (p2 x) R0 0 0) (hk : ∀ x : (Int32 × WI × WL), P (.inr x) → V (zM x_X9_readRows 3 0 0 t) 17 [(0, .ref 33), (1, .int (p1 x))] [] ly0 (p1 (p2 x)) (p2 (p2 x)) R0 0 0) (kk : oP P (F_X9_readRows_92_1 I L a2)) : V (zM x_X9_readRows 3 0 0 t) 92 [(0, .ref 33), (2, .int a2)] [.ref 33] ly0 I L R0 0 0 :=
  V_iconst (tat ok_X9_readRows_1 (i := 10) (q := 93) rfl rfl) ic_0 <|
    V_X9_readRows_93_1 rfl he hk (jx (P := oP P) kk rfl)
def F_X9_readRows_88_1 (I : WI) (L : WL)  (a2 : Int32) : Option ((WI × WL) ⊕ (Int32 × WI × WL)) :=
  (F_X9_readRows_93_1 I L a2 1)
theorem V_X9_readRows_88_1  {I : WI} {L : WL}  {a2 : Int32} {P : ((WI × WL) ⊕ (Int32 × WI × WL)) → Prop} {t : Tg} (he : ∀ x : (WI × WL), P (.inl x) → V (zM x_X9_readRows 3 0 0 t) 189 [(0, .ref 33)] [] ly0 (p1 x) (p2 x) R0 0 0) (hk : ∀ x : (Int32 × WI × WL), P (.inr x) → V (zM x_X9_readRows 3 0 0 t) 17 [(0, .ref 33), (1, .int (p1 x))] [] ly0 (p1 (p2 x)) (p2 (p2 x)) R0 0 0) (kk : oP P (F_X9_readRows_88_1 I L a2)) : V (zM x_X9_readRows 3 0 0 t) 88 [(0, .ref 33), (2, .int a2)] [.ref 33] ly0 I L R0 0 0 :=
  V_iconst (tat ok_X9_readRows_1 (i := 8) (q := 89) rfl rfl) ic_1 <|
    V_goto (tat ok_X9_readRows_1 (i := 9) (q := 92) rfl rfl) rfl <|
    V_X9_readRows_93_1 rfl he hk (jx (P := oP P) kk rfl)
def F_X9_readRows_52_1 (I : WI) (L : WL)  (s0 : Int32) : Option ((WI × WL) ⊕ (Int32 × WI × WL)) :=
  (if 8 < (((F_X9_needs I s0 5) 33 22) - ((F_X9_needs I s0 5) 33 23)) then (F_X9_readRows_92_1 (F_X9_needs I s0 5) L (((F_X9_needs I s0 5) 33 22) - ((F_X9_needs I s0 5) 33 23))) else (if ((F_X9_needs I s0 5) 33 28) = 0 then (F_X9_readRows_88_1 (F_X9_needs I s0 5) L (((F_X9_needs I s0 5) 33 22) - ((F_X9_needs I s0 5) 33 23))) else (if (((F_X9_needs I s0 5) 33 22) - ((F_X9_needs I s0 5) 33 23)) = ((F_X9_needs I s0 5) 33 29) then (F_X9_readRows_88_1 (F_X9_needs I s0 5) L (((F_X9_needs I s0 5) 33 22) - ((F_X9_needs I s0 5) 33 23))) else (F_X9_readRows_92_1 (F_X9_needs I s0 5) L (((F_X9_needs I s0 5) 33 22) - ((F_X9_needs I s0 5) 33 23))))))
theorem V_X9_readRows_52_1  {I : WI} {L : WL}  {s0 : Int32} {P : ((WI × WL) ⊕ (Int32 × WI × WL)) → Prop} {t : Tg} (hs0 : bz s0 = s0) (he : ∀ x : (WI × WL), P (.inl x) → V (zM x_X9_readRows 3 0 0 t) 189 [(0, .ref 33)] [] ly0 (p1 x) (p2 x) R0 0 0) (hk : ∀ x : (Int32 × WI × WL), P (.inr x) → V (zM x_X9_readRows 3 0 0 t) 17 [(0, .ref 33), (1, .int (p1 x))] [] ly0 (p1 (p2 x)) (p2 (p2 x)) R0 0 0) (kk : oP P (F_X9_readRows_52_1 I L s0)) : V (zM x_X9_readRows 3 0 0 t) 52 [(0, .ref 33)] [.int s0, .ref 33] ly0 I L R0 0 0 :=
  V_iconst (tat ok_X9_readRows_0 (i := 29) (q := 53) rfl rfl) ic_5 <|
    V_cv2v (ct_X9_needs I L s0 5 ) mo_X9_needs (tat ok_X9_readRows_0 (i := 30) (q := 56) rfl rfl) ml_X9_138 rfl ⟨by decide, _, rfl, rfl⟩ ⟨(Nat.le_of_ble_eq_true rfl), (Nat.le_of_ble_eq_true rfl)⟩ ⟨(Nat.le_of_ble_eq_true rfl), (Nat.le_of_ble_eq_true rfl)⟩ (Nat.le_of_ble_eq_true rfl) <|
    V_aload_n (tat ok_X9_readRows_0 (i := 31) (q := 57) rfl rfl) 0 rfl rfl <|
    V_getI (tat ok_X9_readRows_0 (i := 32) (q := 60) rfl rfl) fk_X9_110 rfl <|
    V_aload_n (tat ok_X9_readRows_0 (i := 33) (q := 61) rfl rfl) 0 rfl rfl <|
    V_getI (tat ok_X9_readRows_0 (i := 34) (q := 64) rfl rfl) fk_X9_104 rfl <|
    V_isub (tat ok_X9_readRows_0 (i := 35) (q := 65) rfl rfl) <|
    V_istore_n (lv' := [(2, .int (((F_X9_needs I s0 5) 33 22) - ((F_X9_needs I s0 5) 33 23))), (0, .ref 33)]) (tat ok_X9_readRows_0 (i := 36) (q := 66) rfl rfl) rfl (Nat.le_of_ble_eq_true rfl) rfl <|
    V_aload_n (tat ok_X9_readRows_0 (i := 37) (q := 67) rfl rfl) 1 rfl rfl <|
    V_iload_n (tat ok_X9_readRows_0 (i := 38) (q := 68) rfl rfl) 0 rfl rfl <|
    V_bipush (tat ok_X9_readRows_0 (i := 39) (q := 70) rfl rfl) bp_8 <|
    V_icmp_gt (tat ok_X9_readRows_1 (i := 0) (q := 73) rfl rfl) rfl (fun c5 => V_pick [1, 0] rfl (V_X9_readRows_92_1  he hk (jx (P := oP P) kk (if_pos c5)))) (fun c5 => V_aload_n (tat ok_X9_readRows_1 (i := 1) (q := 74) rfl rfl) 1 rfl rfl <|
    V_getI (tat ok_X9_readRows_1 (i := 2) (q := 77) rfl rfl) fk_X9_142 rfl <|
    V_if_eq (tat ok_X9_readRows_1 (i := 3) (q := 80) rfl rfl) rfl (fun c11 => V_pick [1, 0] rfl (V_X9_readRows_88_1  he hk (jx (P := oP P) kk (Eq.trans (if_neg c5) (if_pos c11))))) (fun c11 => V_iload_n (tat ok_X9_readRows_1 (i := 4) (q := 81) rfl rfl) 0 rfl rfl <|
    V_aload_n (tat ok_X9_readRows_1 (i := 5) (q := 82) rfl rfl) 1 rfl rfl <|
    V_getI (tat ok_X9_readRows_1 (i := 6) (q := 85) rfl rfl) fk_X9_145 rfl <|
    V_icmp_ne (tat ok_X9_readRows_1 (i := 7) (q := 88) rfl rfl) rfl (fun c12 => V_pick [1, 0] rfl (V_X9_readRows_92_1  he hk (jx (P := oP P) kk (Eq.trans (if_neg c5) (Eq.trans (if_neg c11) (if_neg c12)))))) (fun c12 => V_pick [1, 0] rfl (V_X9_readRows_88_1  he hk (jx (P := oP P) kk (Eq.trans (if_neg c5) (Eq.trans (if_neg c11) (if_pos c12))))))))
def F_X9_readRows_17_1 (I : WI) (L : WL)  (a1 : Int32) : Option ((WI × WL) ⊕ (Int32 × WI × WL)) :=
  (if (I 33 26) = 0 then (if a1 = 0 then some (.inl (I, L)) else (Option.bind (F_X9_isRowName I) (fun v3 => (if 8 ≤ ((F_X9_needs I v3 2) 33 28) then (F_X9_readRows_52_1 (F_X9_needs I v3 2) L 0) else (F_X9_readRows_52_1 (F_X9_needs I v3 2) L 1))))) else some (.inl (I, L)))
theorem V_X9_readRows_17_1  {I : WI} {L : WL}  {a1 : Int32} {P : ((WI × WL) ⊕ (Int32 × WI × WL)) → Prop} {t : Tg} (he : ∀ x : (WI × WL), P (.inl x) → V (zM x_X9_readRows 3 0 0 t) 189 [(0, .ref 33)] [] ly0 (p1 x) (p2 x) R0 0 0) (hk : ∀ x : (Int32 × WI × WL), P (.inr x) → V (zM x_X9_readRows 3 0 0 t) 17 [(0, .ref 33), (1, .int (p1 x))] [] ly0 (p1 (p2 x)) (p2 (p2 x)) R0 0 0) (kk : oP P (F_X9_readRows_17_1 I L a1)) : V (zM x_X9_readRows 3 0 0 t) 17 [(0, .ref 33), (1, .int a1)] [] ly0 I L R0 0 0 :=
  V_aload_n (tat ok_X9_readRows_0 (i := 11) (q := 18) rfl rfl) 0 rfl rfl <|
    V_getI (tat ok_X9_readRows_0 (i := 12) (q := 21) rfl rfl) fk_X9_101 rfl <|
    V_if_ne (tat ok_X9_readRows_0 (i := 13) (q := 24) rfl rfl) rfl (fun c1 => V_pick [0] rfl (he (I, L) (jx (P := oP P) kk (if_neg c1)))) (fun c1 => V_iload_n (tat ok_X9_readRows_0 (i := 14) (q := 25) rfl rfl) 1 rfl rfl <|
    V_if_eq (tat ok_X9_readRows_0 (i := 15) (q := 28) rfl rfl) rfl (fun c2 => V_pick [0] rfl (he (I, L) (jx (P := oP P) kk (Eq.trans (if_pos c1) (if_pos c2))))) (fun c2 => V_aload_n (tat ok_X9_readRows_0 (i := 16) (q := 29) rfl rfl) 0 rfl rfl <|
    V_aload_n (tat ok_X9_readRows_0 (i := 17) (q := 30) rfl rfl) 0 rfl rfl <|
    oP_case (jx (P := oP P) kk (Eq.trans (if_pos c1) (if_neg c2))) (fun v3 e3 _ => V_cv0 (ct_X9_isRowName I L   e3) mo_X9_isRowName (tat ok_X9_readRows_0 (i := 18) (q := 33) rfl rfl) ml_X9_151 rfl ⟨by decide, _, rfl, rfl⟩ ⟨(Nat.le_of_ble_eq_true rfl), (Nat.le_of_ble_eq_true rfl)⟩ ⟨(Nat.le_of_ble_eq_true rfl), (Nat.le_of_ble_eq_true rfl)⟩ (Nat.le_of_ble_eq_true rfl) <|
    V_iconst (tat ok_X9_readRows_0 (i := 19) (q := 34) rfl rfl) ic_2 <|
    V_cv2v (ct_X9_needs I L v3 2 ) mo_X9_needs (tat ok_X9_readRows_0 (i := 20) (q := 37) rfl rfl) ml_X9_138 rfl ⟨by decide, _, rfl, rfl⟩ ⟨(Nat.le_of_ble_eq_true rfl), (Nat.le_of_ble_eq_true rfl)⟩ ⟨(Nat.le_of_ble_eq_true rfl), (Nat.le_of_ble_eq_true rfl)⟩ (Nat.le_of_ble_eq_true rfl) <|
    V_aload_n (tat ok_X9_readRows_0 (i := 21) (q := 38) rfl rfl) 0 rfl rfl <|
    V_aload_n (tat ok_X9_readRows_0 (i := 22) (q := 39) rfl rfl) 0 rfl rfl <|
    V_getI (tat ok_X9_readRows_0 (i := 23) (q := 42) rfl rfl) fk_X9_142 rfl <|
    V_bipush (tat ok_X9_readRows_0 (i := 24) (q := 44) rfl rfl) bp_8 <|
    V_icmp_ge (tat ok_X9_readRows_0 (i := 25) (q := 47) rfl rfl) rfl (fun c4 => V_iconst (tat ok_X9_readRows_0 (i := 28) (q := 52) rfl rfl) ic_0 <|
    V_pick [0] rfl (V_X9_readRows_52_1 rfl he hk (jx (P := oP P) kk (Eq.trans (if_pos c1) (Eq.trans (if_neg c2) (Eq.trans (ob e3) (if_pos c4))))))) (fun c4 => V_iconst (tat ok_X9_readRows_0 (i := 26) (q := 48) rfl rfl) ic_1 <|
    V_goto (tat ok_X9_readRows_0 (i := 27) (q := 51) rfl rfl) rfl <|
    V_pick [0] rfl (V_X9_readRows_52_1 rfl he hk (jx (P := oP P) kk (Eq.trans (if_pos c1) (Eq.trans (if_neg c2) (Eq.trans (ob e3) (if_neg c4))))))))))
