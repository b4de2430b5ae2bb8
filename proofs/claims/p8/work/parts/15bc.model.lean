def F_X9_readRows_189 (I : WI) (L : WL) : Option (WI × WL) :=
  some (I, L)
theorem V_X9_readRows_189  {I : WI} {L : WL}   {P : (WI × WL) → Prop} {t : Tg} (hr : ∀ v, P v → t = (none, ly0, (p1 v), (p2 v), R0)) (kk : oP P (F_X9_readRows_189 I L)) : V (zM x_X9_readRows 3 0 0 t) 189 [(0, .ref 33)] [] ly0 I L R0 0 0 :=
  V_vret (tat ok_X9_readRows_2 (i := 22) (q := 190) rfl rfl) rfl (hr (I, L) (jx (P := oP P) kk rfl)) ⟨(Nat.le_of_ble_eq_true rfl), (Nat.le_of_ble_eq_true rfl)⟩
def F_X9_readRows_17 (I : WI) (L : WL)  (a1 : Int32) : Option (WI × WL) :=
  (lpp (fun x => (F_X9_readRows_17_1 (p1 (p2 x)) (p2 (p2 x)) (p1 x))) 4294967296 (a1, I, L)).bind (fun q => (F_X9_readRows_189 (p1 q) (p2 q)))
theorem V_X9_readRows_17  {I : WI} {L : WL}  {a1 : Int32} {P : (WI × WL) → Prop} {t : Tg} (hb1 : bz a1 = a1) (hr : ∀ v, P v → t = (none, ly0, (p1 v), (p2 v), R0)) (kk : oP P (F_X9_readRows_17 I L a1)) : V (zM x_X9_readRows 3 0 0 t) 17 [(0, .ref 33), (1, .int a1)] [] ly0 I L R0 0 0 :=
  V_lpp (fun x => (F_X9_readRows_17_1 (p1 (p2 x)) (p2 (p2 x)) (p1 x))) (fun x => V (zM x_X9_readRows 3 0 0 t) 17 [(0, .ref 33), (1, .int (p1 x))] [] ly0 (p1 (p2 x)) (p2 (p2 x)) R0 0 0) (fun x => oP P ((F_X9_readRows_189 (p1 x) (p2 x)))) (s := (a1, I, L)) (fun x e0 => V_X9_readRows_17_1 (P := Sum.elim (fun x => oP P ((F_X9_readRows_189 (p1 x) (p2 x)))) (fun x => V (zM x_X9_readRows 3 0 0 t) 17 [(0, .ref 33), (1, .int (p1 x))] [] ly0 (p1 (p2 x)) (p2 (p2 x)) R0 0 0))  (fun x e => V_X9_readRows_189  hr e) (fun _ e => e) e0) (oP_bind (f := fun q => _) kk)
def F_X9_readRows (I : WI) (L : WL) : Option (WI × WL) :=
  (F_X9_readRows_17 (u2 (u2 I 33 28 0) 33 29 0) (u2 L 33 30 0) 1)
theorem V_X9_readRows  {I : WI} {L : WL}   {P : (WI × WL) → Prop} {t : Tg} (hr : ∀ v, P v → t = (none, ly0, (p1 v), (p2 v), R0)) (kk : oP P (F_X9_readRows I L)) : V (zM x_X9_readRows 3 0 0 t) 0 [(0, .ref 33)] [] ly0 I L R0 0 0 :=
  V_aload_n (tat ok_X9_readRows_0 (i := 0) (q := 1) rfl rfl) 0 rfl rfl <|
    V_iconst (tat ok_X9_readRows_0 (i := 1) (q := 2) rfl rfl) ic_0 <|
    V_putI (tat ok_X9_readRows_0 (i := 2) (q := 5) rfl rfl) fk_X9_142 rfl rfl <|
    V_aload_n (tat ok_X9_readRows_0 (i := 3) (q := 6) rfl rfl) 0 rfl rfl <|
    V_iconst (tat ok_X9_readRows_0 (i := 4) (q := 7) rfl rfl) ic_0 <|
    V_putI (tat ok_X9_readRows_0 (i := 5) (q := 10) rfl rfl) fk_X9_145 rfl rfl <|
    V_aload_n (tat ok_X9_readRows_0 (i := 6) (q := 11) rfl rfl) 0 rfl rfl <|
    V_lconst (v := 0) (tat ok_X9_readRows_0 (i := 7) (q := 12) rfl rfl) rfl <|
    V_putL (tat ok_X9_readRows_0 (i := 8) (q := 15) rfl rfl) fk_X9_148 rfl rfl <|
    V_iconst (tat ok_X9_readRows_0 (i := 9) (q := 16) rfl rfl) ic_1 <|
    V_istore_n (lv' := [(1, .int 1), (0, .ref 33)]) (tat ok_X9_readRows_0 (i := 10) (q := 17) rfl rfl) rfl (Nat.le_of_ble_eq_true rfl) rfl <|
    V_pick [1, 0] rfl (V_X9_readRows_17 rfl hr (jx (P := oP P) kk rfl))
theorem ct_X9_readRows  (I : WI) (L : WL)  {v : (WI × WL)} (h : (F_X9_readRows I L) = some v) : Ct x_X9_readRows 3 [.ref 33] ly0 I L R0 0 0 (none, ly0, (p1 v), (p2 v), R0) :=
  Ct_of_V mo_X9_readRows.1 (Nat.le_of_ble_eq_true rfl) (V_X9_readRows (P := fun x => x = v)  (fun _ e => by rw [e]) (by rw [h]; exact rfl))
def F_X9_readAct_144 (I : WI) (a1 : Int32) : Option WI :=
  (Option.bind (F_X9_next I) (fun v12 => some v12))
theorem V_X9_readAct_144  {I : WI} {L : WL} {a1 : Int32}  {P : WI → Prop} {t : Tg} (hr : ∀ v, P v → t = (none, ly0, v, L, R0)) (kk : oP P (F_X9_readAct_144 I a1)) : V (zM x_X9_readAct 4 0 0 t) 144 [(0, .ref 33), (1, .int a1)] [] ly0 I L R0 0 0 :=
  V_aload_n (tat ok_X9_readAct_1 (i := 39) (q := 145) rfl rfl) 0 rfl rfl <|
    oP_case (jx (P := oP P) kk rfl) (fun v12 e12 _ => V_cv0v (ct_X9_next I L   e12) mo_X9_next (tat ok_X9_readAct_2 (i := 0) (q := 148) rfl rfl) ml_X9_159 rfl ⟨by decide, _, rfl, rfl⟩ ⟨(Nat.le_of_ble_eq_true rfl), (Nat.le_of_ble_eq_true rfl)⟩ ⟨(Nat.le_of_ble_eq_true rfl), (Nat.le_of_ble_eq_true rfl)⟩ (Nat.le_of_ble_eq_true rfl) <|
    V_vret (tat ok_X9_readAct_2 (i := 1) (q := 149) rfl rfl) rfl (hr v12 (jx (P := oP P) kk (ob e12))) ⟨(Nat.le_of_ble_eq_true rfl), (Nat.le_of_ble_eq_true rfl)⟩)
def F_X9_readAct_113 (I : WI) (a1 : Int32) (a2 : Int32) : Option WI :=
  (if (I 33 26) = 0 then (if (((4 * (I 33 18)) + 1) + a1) < 0 ∨ 48 ≤ Int32.toNatClampNeg (((4 * (I 33 18)) + 1) + a1) then none else (F_X9_readAct_144 (u2 I 38 (Int32.toNatClampNeg (((4 * (I 33 18)) + 1) + a1)) ((20 * a2) + (I 33 25))) a1)) else (F_X9_readAct_144 I a1))
theorem V_X9_readAct_113  {I : WI} {L : WL} {a1 : Int32} {a2 : Int32} {P : WI → Prop} {t : Tg} (hr : ∀ v, P v → t = (none, ly0, v, L, R0)) (kk : oP P (F_X9_readAct_113 I a1 a2)) : V (zM x_X9_readAct 4 0 0 t) 113 [(0, .ref 33), (1, .int a1), (2, .int a2)] [] ly0 I L R0 0 0 :=
  V_aload_n (tat ok_X9_readAct_1 (i := 19) (q := 114) rfl rfl) 0 rfl rfl <|
    V_getI (tat ok_X9_readAct_1 (i := 20) (q := 117) rfl rfl) fk_X9_101 rfl <|
    V_if_ne (tat ok_X9_readAct_1 (i := 21) (q := 120) rfl rfl) rfl (fun c10 => V_pick [0, 1] rfl (V_X9_readAct_144  hr (jx (P := oP P) kk (if_neg c10)))) (fun c10 => V_aload_n (tat ok_X9_readAct_1 (i := 22) (q := 121) rfl rfl) 0 rfl rfl <|
    V_getR (tat ok_X9_readAct_1 (i := 23) (q := 124) rfl rfl) fk_X9_23 rfl rfl <|
    V_iconst (tat ok_X9_readAct_1 (i := 24) (q := 125) rfl rfl) ic_4 <|
    V_aload_n (tat ok_X9_readAct_1 (i := 25) (q := 126) rfl rfl) 0 rfl rfl <|
    V_getI (tat ok_X9_readAct_1 (i := 26) (q := 129) rfl rfl) fk_X9_71 rfl <|
    V_imul (tat ok_X9_readAct_1 (i := 27) (q := 130) rfl rfl) <|
    V_iconst (tat ok_X9_readAct_1 (i := 28) (q := 131) rfl rfl) ic_1 <|
    V_iadd (tat ok_X9_readAct_1 (i := 29) (q := 132) rfl rfl) <|
    V_iload_n (tat ok_X9_readAct_1 (i := 30) (q := 133) rfl rfl) 1 rfl rfl <|
    V_iadd (tat ok_X9_readAct_1 (i := 31) (q := 134) rfl rfl) <|
    V_bipush (tat ok_X9_readAct_1 (i := 32) (q := 136) rfl rfl) bp_20 <|
    V_iload_n (tat ok_X9_readAct_1 (i := 33) (q := 137) rfl rfl) 2 rfl rfl <|
    V_imul (tat ok_X9_readAct_1 (i := 34) (q := 138) rfl rfl) <|
    V_aload_n (tat ok_X9_readAct_1 (i := 35) (q := 139) rfl rfl) 0 rfl rfl <|
    V_getI (tat ok_X9_readAct_1 (i := 36) (q := 142) rfl rfl) fk_X9_135 rfl <|
    V_iadd (tat ok_X9_readAct_1 (i := 37) (q := 143) rfl rfl) <|
    (if c11 : (((4 * (I 33 18)) + 1) + a1) < 0 ∨ 48 ≤ Int32.toNatClampNeg (((4 * (I 33 18)) + 1) + a1) then ((jx (P := oP P) kk (Eq.trans (if_pos c10) (if_pos c11)))).elim else V_iast (tat ok_X9_readAct_1 (i := 38) (q := 144) rfl rfl) rfl c11 <|
    V_pick [0, 1] rfl (V_X9_readAct_144  hr (jx (P := oP P) kk (Eq.trans (if_pos c10) (if_neg c11))))))
def F_X9_readAct_106 (I : WI) (a1 : Int32) (a2 : Int32) (s0 : Int64) (s1 : Int64) (s2 : Int64) : Option WI :=
  (F_X9_readAct_113 (F_X9_needs I (F_X9_in s2 s1 s0) 3) a1 a2)
theorem V_X9_readAct_106  {I : WI} {L : WL} {a1 : Int32} {a2 : Int32} {s0 : Int64} {s1 : Int64} {s2 : Int64} {P : WI → Prop} {t : Tg} (hr : ∀ v, P v → t = (none, ly0, v, L, R0)) (kk : oP P (F_X9_readAct_106 I a1 a2 s0 s1 s2)) : V (zM x_X9_readAct 4 0 0 t) 106 [(0, .ref 33), (1, .int a1), (2, .int a2)] [.long s0, .long s1, .long s2, .ref 33] ly0 I L R0 0 0 :=
  V_cs3 (ct_X9_in I L s2 s1 s0 ) mo_X9_in (tat ok_X9_readAct_1 (i := 16) (q := 109) rfl rfl) ml_X9_97 ⟨(Nat.le_of_ble_eq_true rfl), (Nat.le_of_ble_eq_true rfl)⟩ ⟨(Nat.le_of_ble_eq_true rfl), (Nat.le_of_ble_eq_true rfl)⟩ (Nat.le_of_ble_eq_true rfl) <|
    V_iconst (tat ok_X9_readAct_1 (i := 17) (q := 110) rfl rfl) ic_3 <|
    V_cv2v (ct_X9_needs I L (F_X9_in s2 s1 s0) 3 ) mo_X9_needs (tat ok_X9_readAct_1 (i := 18) (q := 113) rfl rfl) ml_X9_138 rfl ⟨by decide, _, rfl, rfl⟩ ⟨(Nat.le_of_ble_eq_true rfl), (Nat.le_of_ble_eq_true rfl)⟩ ⟨(Nat.le_of_ble_eq_true rfl), (Nat.le_of_ble_eq_true rfl)⟩ (Nat.le_of_ble_eq_true rfl) <|
    V_X9_readAct_113  hr (jx (P := oP P) kk rfl)
def F_X9_readAct_78 (I : WI) (a1 : Int32) (a2 : Int32) : Option WI :=
  (if (I 33 26) = 0 then (if a2 = 2 then (F_X9_readAct_106 I a1 a2 14 0 (Int32.toInt64 (I 33 25))) else (F_X9_readAct_106 I a1 a2 7 0 (Int32.toInt64 (I 33 25)))) else (F_X9_readAct_113 I a1 a2))
theorem V_X9_readAct_78  {I : WI} {L : WL} {a1 : Int32} {a2 : Int32} {P : WI → Prop} {t : Tg} (hr : ∀ v, P v → t = (none, ly0, v, L, R0)) (kk : oP P (F_X9_readAct_78 I a1 a2)) : V (zM x_X9_readAct 4 0 0 t) 78 [(0, .ref 33), (1, .int a1), (2, .int a2)] [] ly0 I L R0 0 0 :=
  V_aload_n (tat ok_X9_readAct_1 (i := 2) (q := 79) rfl rfl) 0 rfl rfl <|
    V_getI (tat ok_X9_readAct_1 (i := 3) (q := 82) rfl rfl) fk_X9_101 rfl <|
    V_if_ne (tat ok_X9_readAct_1 (i := 4) (q := 85) rfl rfl) rfl (fun c8 => V_X9_readAct_113  hr (jx (P := oP P) kk (if_neg c8))) (fun c8 => V_aload_n (tat ok_X9_readAct_1 (i := 5) (q := 86) rfl rfl) 0 rfl rfl <|
    V_aload_n (tat ok_X9_readAct_1 (i := 6) (q := 87) rfl rfl) 0 rfl rfl <|
    V_getI (tat ok_X9_readAct_1 (i := 7) (q := 90) rfl rfl) fk_X9_135 rfl <|
    V_i2l (tat ok_X9_readAct_1 (i := 8) (q := 91) rfl rfl) <|
    V_lconst (v := 0) (tat ok_X9_readAct_1 (i := 9) (q := 92) rfl rfl) rfl <|
    V_iload_n (tat ok_X9_readAct_1 (i := 10) (q := 93) rfl rfl) 2 rfl rfl <|
    V_iconst (tat ok_X9_readAct_1 (i := 11) (q := 94) rfl rfl) ic_2 <|
    V_icmp_ne (tat ok_X9_readAct_1 (i := 12) (q := 97) rfl rfl) rfl (fun c9 => V_ldc2 (tat ok_X9_readAct_1 (i := 15) (q := 106) rfl rfl) (gw_in kl_X9_168 rfl) <|
    V_X9_readAct_106  hr (jx (P := oP P) kk (Eq.trans (if_pos c8) (if_neg c9)))) (fun c9 => V_ldc2 (tat ok_X9_readAct_1 (i := 13) (q := 100) rfl rfl) (gw_in kl_X9_166 rfl) <|
    V_goto (tat ok_X9_readAct_1 (i := 14) (q := 103) rfl rfl) rfl <|
    V_X9_readAct_106  hr (jx (P := oP P) kk (Eq.trans (if_pos c8) (if_pos c9)))))
def F_X9_readAct_74 (I : WI) (a1 : Int32) (a2 : Int32) (s0 : Int32) : Option WI :=
  (F_X9_readAct_78 (F_X9_needs I s0 2) a1 a2)
theorem V_X9_readAct_74  {I : WI} {L : WL} {a1 : Int32} {a2 : Int32} {s0 : Int32} {P : WI → Prop} {t : Tg} (hs0 : bz s0 = s0) (hr : ∀ v, P v → t = (none, ly0, v, L, R0)) (kk : oP P (F_X9_readAct_74 I a1 a2 s0)) : V (zM x_X9_readAct 4 0 0 t) 74 [(0, .ref 33), (1, .int a1), (2, .int a2)] [.int s0, .ref 33] ly0 I L R0 0 0 :=
  V_iconst (tat ok_X9_readAct_1 (i := 0) (q := 75) rfl rfl) ic_2 <|
    V_cv2v (ct_X9_needs I L s0 2 ) mo_X9_needs (tat ok_X9_readAct_1 (i := 1) (q := 78) rfl rfl) ml_X9_138 rfl ⟨by decide, _, rfl, rfl⟩ ⟨(Nat.le_of_ble_eq_true rfl), (Nat.le_of_ble_eq_true rfl)⟩ ⟨(Nat.le_of_ble_eq_true rfl), (Nat.le_of_ble_eq_true rfl)⟩ (Nat.le_of_ble_eq_true rfl) <|
    V_X9_readAct_78  hr (jx (P := oP P) kk rfl)
def F_X9_readAct_45 (I : WI) (a1 : Int32) (a2 : Int32) (s0 : Int32) : Option WI :=
  (Option.bind (F_X9_next (F_X9_needs I s0 5)) (fun v5 => (if (v5 33 26) = 0 then (if (v5 33 24) = 2 then (F_X9_readAct_74 v5 a1 a2 1) else (F_X9_readAct_74 v5 a1 a2 0)) else (F_X9_readAct_78 v5 a1 a2))))
theorem V_X9_readAct_45  {I : WI} {L : WL} {a1 : Int32} {a2 : Int32} {s0 : Int32} {P : WI → Prop} {t : Tg} (hs0 : bz s0 = s0) (hr : ∀ v, P v → t = (none, ly0, v, L, R0)) (kk : oP P (F_X9_readAct_45 I a1 a2 s0)) : V (zM x_X9_readAct 4 0 0 t) 45 [(0, .ref 33), (1, .int a1), (2, .int a2)] [.int s0, .ref 33] ly0 I L R0 0 0 :=
  V_iconst (tat ok_X9_readAct_0 (i := 25) (q := 46) rfl rfl) ic_5 <|
    V_cv2v (ct_X9_needs I L s0 5 ) mo_X9_needs (tat ok_X9_readAct_0 (i := 26) (q := 49) rfl rfl) ml_X9_138 rfl ⟨by decide, _, rfl, rfl⟩ ⟨(Nat.le_of_ble_eq_true rfl), (Nat.le_of_ble_eq_true rfl)⟩ ⟨(Nat.le_of_ble_eq_true rfl), (Nat.le_of_ble_eq_true rfl)⟩ (Nat.le_of_ble_eq_true rfl) <|
    V_aload_n (tat ok_X9_readAct_0 (i := 27) (q := 50) rfl rfl) 0 rfl rfl <|
    oP_case (jx (P := oP P) kk rfl) (fun v5 e5 _ => V_cv0v (ct_X9_next (F_X9_needs I s0 5) L   e5) mo_X9_next (tat ok_X9_readAct_0 (i := 28) (q := 53) rfl rfl) ml_X9_159 rfl ⟨by decide, _, rfl, rfl⟩ ⟨(Nat.le_of_ble_eq_true rfl), (Nat.le_of_ble_eq_true rfl)⟩ ⟨(Nat.le_of_ble_eq_true rfl), (Nat.le_of_ble_eq_true rfl)⟩ (Nat.le_of_ble_eq_true rfl) <|
    V_aload_n (tat ok_X9_readAct_0 (i := 29) (q := 54) rfl rfl) 0 rfl rfl <|
    V_getI (tat ok_X9_readAct_0 (i := 30) (q := 57) rfl rfl) fk_X9_101 rfl <|
    V_if_ne (tat ok_X9_readAct_0 (i := 31) (q := 60) rfl rfl) rfl (fun c6 => V_X9_readAct_78  hr (jx (P := oP P) kk (Eq.trans (ob e5) (if_neg c6)))) (fun c6 => V_aload_n (tat ok_X9_readAct_0 (i := 32) (q := 61) rfl rfl) 0 rfl rfl <|
    V_aload_n (tat ok_X9_readAct_0 (i := 33) (q := 62) rfl rfl) 0 rfl rfl <|
    V_getI (tat ok_X9_readAct_0 (i := 34) (q := 65) rfl rfl) fk_X9_124 rfl <|
    V_iconst (tat ok_X9_readAct_0 (i := 35) (q := 66) rfl rfl) ic_2 <|
    V_icmp_ne (tat ok_X9_readAct_0 (i := 36) (q := 69) rfl rfl) rfl (fun c7 => V_iconst (tat ok_X9_readAct_0 (i := 39) (q := 74) rfl rfl) ic_0 <|
    V_X9_readAct_74 rfl hr (jx (P := oP P) kk (Eq.trans (ob e5) (Eq.trans (if_pos c6) (if_neg c7))))) (fun c7 => V_iconst (tat ok_X9_readAct_0 (i := 37) (q := 70) rfl rfl) ic_1 <|
    V_goto (tat ok_X9_readAct_0 (i := 38) (q := 73) rfl rfl) rfl <|
    V_X9_readAct_74 rfl hr (jx (P := oP P) kk (Eq.trans (ob e5) (Eq.trans (if_pos c6) (if_pos c7)))))))
def F_X9_readAct_30 (I : WI) (a1 : Int32) (a2 : Int32) (s0 : Int32) : Option WI :=
  (if 3 ≤ a1 then (F_X9_readAct_45 (F_X9_needs I s0 2) a1 a2 0) else (F_X9_readAct_45 (F_X9_needs I s0 2) a1 a2 1))
theorem V_X9_readAct_30  {I : WI} {L : WL} {a1 : Int32} {a2 : Int32} {s0 : Int32} {P : WI → Prop} {t : Tg} (hs0 : bz s0 = s0) (hr : ∀ v, P v → t = (none, ly0, v, L, R0)) (kk : oP P (F_X9_readAct_30 I a1 a2 s0)) : V (zM x_X9_readAct 4 0 0 t) 30 [(0, .ref 33), (1, .int a1), (2, .int a2)] [.int s0, .ref 33] ly0 I L R0 0 0 :=
  V_iconst (tat ok_X9_readAct_0 (i := 16) (q := 31) rfl rfl) ic_2 <|
    V_cv2v (ct_X9_needs I L s0 2 ) mo_X9_needs (tat ok_X9_readAct_0 (i := 17) (q := 34) rfl rfl) ml_X9_138 rfl ⟨by decide, _, rfl, rfl⟩ ⟨(Nat.le_of_ble_eq_true rfl), (Nat.le_of_ble_eq_true rfl)⟩ ⟨(Nat.le_of_ble_eq_true rfl), (Nat.le_of_ble_eq_true rfl)⟩ (Nat.le_of_ble_eq_true rfl) <|
    V_aload_n (tat ok_X9_readAct_0 (i := 18) (q := 35) rfl rfl) 0 rfl rfl <|
    V_iload_n (tat ok_X9_readAct_0 (i := 19) (q := 36) rfl rfl) 1 rfl rfl <|
    V_iconst (tat ok_X9_readAct_0 (i := 20) (q := 37) rfl rfl) ic_3 <|
    V_icmp_ge (tat ok_X9_readAct_0 (i := 21) (q := 40) rfl rfl) rfl (fun c4 => V_iconst (tat ok_X9_readAct_0 (i := 24) (q := 45) rfl rfl) ic_0 <|
    V_X9_readAct_45 rfl hr (jx (P := oP P) kk (if_pos c4))) (fun c4 => V_iconst (tat ok_X9_readAct_0 (i := 22) (q := 41) rfl rfl) ic_1 <|
    V_goto (tat ok_X9_readAct_0 (i := 23) (q := 44) rfl rfl) rfl <|
    V_X9_readAct_45 rfl hr (jx (P := oP P) kk (if_neg c4)))
